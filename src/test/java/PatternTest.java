/** Promises 7 and 8: compile, fault. */
final class PatternTest {
    private static final String[] PATTERNS = {
        "", "|", "||", "()", "(|)", "a|", "|a", "a*", "a**+?", "()*", "^*", "$+", ".?", "[a]", "[^a]", "[a-z]",
        "[-]", "[--]", "[---]", "[a-]", "[-a]", "[^-]", "[^^]", "[b-a]", "[[]", "[\\]", "[(|)*+?.$]", "[\n]", "[ -~]",
        "\\\\", "\\]", "\\\n", "\\a", "\\ ", "\n", "{}-,", "^^$$", "((((((((a))))))))", "((((((((", "(a)(a)(a)(a)(a)(a)(a)"
    };

    private static final Object[][] FAULTS = {
        {"*", 0}, {"+", 0}, {"?", 0}, {")", 0}, {"]", 0}, {"a)", 1}, {"a]", 1}, {"(*", 1}, {"(+a)", 1}, {"a|?", 2},
        {"(", 1}, {"(a", 2}, {"(a|", 3}, {"(()", 3}, {"())", 2}, {"[", 1}, {"[^", 2}, {"[]", 1}, {"[^]", 2},
        {"[]a]", 1}, {"[a", 2}, {"[a-", 3}, {"[a-b", 4}, {"[b-a", 4}, {"[\\]]", 3}, {"\\", 1}, {"a\\", 2}, {"(\\)", 3},
        {"([a)", 4}, {"(((((((((", 8}, {"(((((((((a)))))))))", 8}, {"()((((((((()))))))))", 10}, {"a**)", 3},
        {"[a-]]", 4}, {"[a]]", 3}
    };

    public static void main(String[] args) {
        reading();
        faults();
        keepingAndForgetting();
        Check.end();
    }

    private static void reading() {
        for (String pattern : PATTERNS) {
            DraftTree x = new DraftTree();
            Check.type(x, pattern);
            boolean open = pattern.equals("((((((((");
            if (open) {
                Check.refused(x, "compile of " + pattern, Check.ARGUMENT, x::compile);
                continue;
            }
            try {
                x.compile();
            } catch (IllegalArgumentException e) {
                Check.same("compile of " + pattern, "thrown", "nothing");
            }
            Check.same("fault of " + pattern, x.fault(), -1);
            Check.same("slip after compile", x.figure(4), 0);
            Check.refused(x, "find in an empty text", Check.MISSING, () -> x.find(0));
        }
    }

    private static void faults() {
        for (Object[] row : FAULTS) {
            DraftTree x = new DraftTree();
            Check.type(x, (String) row[0]);
            Check.refused(x, "compile of " + row[0], Check.ARGUMENT, x::compile);
            Check.same("fault of " + row[0], x.fault(), row[1]);
            Check.refused(x, "find then", Check.STATE, () -> x.find(0));
        }
    }

    private static void keepingAndForgetting() {
        DraftTree x = Check.withText("abab");
        Check.compile(x, "b");
        Check.same("fault after a good one", x.fault(), -1);
        Check.type(x, "aa)");
        Check.refused(x, "compile of aa)", Check.ARGUMENT, x::compile);
        Check.same("the former pattern stays", x.find(0), 1);
        x.wipe();
        Check.same("fault after wipe", x.fault(), 2);
        Check.type(x, "(");
        Check.same("fault after type", x.fault(), 2);
        Check.refused(x, "compile of (", Check.ARGUMENT, x::compile);
        Check.same("the latest fault", x.fault(), 1);
        Check.same("the former pattern stays again", x.find(2), 3);
        Check.type(x, "a)");
        x.compile();
        Check.same("fault after a good one later", x.fault(), -1);
        Check.same("the new pattern", x.find(1), 2);
        x.compile();
        Check.refused(x, "find of the empty pattern", Check.MISSING, () -> x.find(0));
    }
}
