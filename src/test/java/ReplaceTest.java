/** Promise 10: replace; the text's 160, the 40 states, and what is done where nothing is found. */
final class ReplaceTest {
    private static final String FULL_SLIP = "x".repeat(24);

    public static void main(String[] args) {
        replacing("one two one", "one", "1", 2, "1 two 1", 7);
        replacing("one two one", "one", "", 2, " two ", 5);
        replacing("one two", "o", "oo", 2, "oone twoo", 9);
        replacing("aaaa", "a", "b", 4, "bbbb", 4);
        replacing("aaaa", "aa", "a", 2, "aa", 2);
        replacing("aaaaa", "aa", "b", 2, "bba", 2);
        replacing("aaaaa", "a+", "b", 1, "b", 1);
        replacing("abc", "a", "abc", 1, "abcbc", 3);
        replacing("abc", "b", "", 1, "ac", 1);
        replacing("abc", "c", "\n", 1, "ab\n", 3);
        replacing("abc", ".", "", 3, "", 0);
        replacing("same", "same", "same", 1, "same", 4);
        theFirstFromTheEndOfTheOneBefore();
        inTheTextAsItWas();
        emptyFitsAreNoMatches();
        nothingFound();
        noPattern();
        textTooLong();
        nothingFoundInAFullText();
        fortyStates();
        selectionDoesNotCount();
        asManyAsCanBe();
        Check.end();
    }

    private static void replacing(String text, String pattern, String put, int count, String due, int cursor) {
        Run run = new Run().text(text).pattern(pattern).go(1).type(put).replace();
        run.answers(count).sees(due, 2, 3, cursor, -1, 0);
        run.parent(2).answers(1);
        run.undo().answers(1).sees(text, 1, 3, 1, -1, 0);
        run.undo().redo().answers(2).sees(due, 2, 3, cursor, -1, 0);
    }

    private static void theFirstFromTheEndOfTheOneBefore() {
        replacing("ababa", "aba", "x", 1, "xba", 1);
        replacing("ababab", "abab|ba", "x", 1, "xab", 1);
        replacing("aab", "ab|a", "x", 2, "xx", 2);
        replacing("abcabc", "a|bc|abc", "x", 2, "xx", 2);
        replacing("xaxbx", "x*", "", 3, "ab", 2);
    }

    /** What was put in is not looked at again, and line ends and begins are those of the former text. */
    private static void inTheTextAsItWas() {
        replacing("aaa", "^a", "", 1, "aa", 0);
        replacing("aaa", "a$", "", 1, "aa", 2);
        replacing("aaa", "^a", "\n", 1, "\naa", 1);
        replacing("aab\nab", "^a", "-", 2, "-ab\n-b", 5);
        replacing("xx\nxx", "x$", ".", 2, "x.\nx.", 5);
        replacing("a\na\na", "^a\n?", "", 3, "", 0);
        replacing("a\nb\n", "\n", "; ", 2, "a; b; ", 6);
        replacing("a\nb", "\n|^b", "", 2, "a", 1);
        replacing("ab", "a|b", "ab", 2, "abab", 4);
    }

    private static void emptyFitsAreNoMatches() {
        String[] patterns = {"", "()", "z*", "^", "$", "^$", "z|()", "(|z)*"};
        for (String pattern : patterns) {
            new Run().text("ab\n\ncd").pattern(pattern).type("q").replace().answers(0).sees("ab\n\ncd", 1, 2, 6, -1, 0);
            new Run().pattern(pattern).type("q").replace().answers(0).sees("", 0, 1, 0, -1, 0);
        }
    }

    private static void nothingFound() {
        Run run = new Run().text("abc").pattern("z").go(1).keep(3);
        run.type("slip").replace().answers(0).sees("abc", 1, 2, 3, 1, 0);
        run.replace().answers(0).changesNothing();
        run.type(")").compile().replace().answers(0).fault().answers(0);
        run.type(FULL_SLIP).replace().answers(0).figure(4).answers(0);
        run.type("slip").replace().find(0).refused(Check.MISSING);
        run.type("slip").replace().redo().refused(Check.MISSING);
    }

    private static void noPattern() {
        new Run().replace().refused(Check.STATE);
        new Run().text("abc").type("x").replace().refused(Check.STATE);
        new Run().text("abc").keep(0).type("x)").compile().replace().refused(Check.STATE);
        new Run().text("a".repeat(160)).type("x").replace().refused(Check.STATE);
        new Run().text("abc").states(40).type("x").replace().refused(Check.STATE);
    }

    private static void textTooLong() {
        Run one = new Run().text("b" + "a".repeat(136)).pattern("b");
        one.type(FULL_SLIP).replace().answers(1).length().answers(160);
        one.text("a").type(FULL_SLIP).replace().refused(Check.STATE);
        one.text("a").type(FULL_SLIP).replace().wipe().answers(24);
        Run full = new Run().text("ab".repeat(80));
        full.pattern("^a").type("x").replace().answers(1).sees("xb" + "ab".repeat(79), 8, 9, 1, -1, 0);
        full.pattern("^a").type("xy").replace().refused(Check.STATE);
        full.pattern("^ab").type("xy").replace().answers(1).length().answers(160);
        full.pattern("a").type("xy").replace().refused(Check.STATE);
        full.keep(0).pattern("b$").type("xy").replace().refused(Check.STATE);
        full.pattern("ab").type("xy").replace().answers(80).sees("xy".repeat(80), 8, 9, 160, -1, 0);
        full.pattern("[ab]+").type(FULL_SLIP).replace().answers(1).sees(FULL_SLIP, 8, 9, 24, -1, 0);
        Run some = new Run().text("ab".repeat(40));
        some.pattern("a").type("xyz").replace().answers(40).sees("xyzb".repeat(40), 5, 6, 159, -1, 0);
        some.text("c").pattern("a").type("xyz").replace().refused(Check.STATE);
        some.pattern("b").type("xyz").replace().answers(40).sees("axyz".repeat(40), 5, 6, 160, -1, 0);
    }

    private static void nothingFoundInAFullText() {
        Run full = new Run().text("a".repeat(160)).pattern("b").type(FULL_SLIP);
        full.replace().answers(0).sees("a".repeat(160), 7, 8, 160, -1, 0);
        full.keep(3).replace().answers(0).sees("a".repeat(160), 7, 8, 3, 160, 0);
    }

    private static void fortyStates() {
        Run almost = new Run().text("abc").pattern("b").states(39);
        almost.type("x").replace().answers(1).figure(0).answers(39);
        Run full = new Run().text("abc").pattern("b").states(40);
        full.type("x").replace().refused(Check.STATE);
        full.replace().refused(Check.STATE);
        full.keep(0).type("b").replace().refused(Check.STATE);
        full.jump(1).type(FULL_SLIP).replace().refused(Check.STATE);
        full.jump(0).type("x").replace().answers(0).sees("", 0, 40, 0, -1, 0);
        full.pattern("z").type("x").keep(3).replace().answers(0).figure(4).answers(0);
        full.pattern("z").type("x").keep(3).replace().figure(3).answers(41);
        full.pattern("z").replace().answers(0).changesNothing();
        new Run().text("a".repeat(160)).pattern("^a").states(40).type("xyz").replace().refused(Check.STATE);
    }

    private static void selectionDoesNotCount() {
        Run run = new Run().text("aXbXc").pattern("X");
        run.keep(2).type("YY").replace().answers(2).sees("aYYbYYc", 2, 3, 6, -1, 0);
        run.find(2).type("Y").replace().answers(2).sees("aYbYc", 2, 3, 4, -1, 0);
        run.find(2).type("Y").replace().undo().sees("aXbXc", 1, 3, 4, -1, 0);
        run.keep(2).replace().answers(2).sees("abc", 2, 3, 2, -1, 0);
    }

    private static void asManyAsCanBe() {
        Run full = new Run().text("q".repeat(160)).pattern(".");
        full.type("r").replace().answers(160).sees("r".repeat(160), 8, 9, 160, -1, 0);
        full.replace().answers(160).sees("", 8, 9, 0, -1, 0);
        new Run().text("q".repeat(159)).pattern("q").type("r").replace().answers(159);
    }
}
