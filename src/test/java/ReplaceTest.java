/** Promise 10: replace. */
final class ReplaceTest {
    public static void main(String[] args) {
        replacing("one two one", "one", "1", 2, "1 two 1", 7);
        replacing("one two one", "one", "", 2, " two ", 5);
        replacing("one two", "o", "oo", 2, "oone twoo", 9);
        replacing("aaaa", "aa", "a", 2, "aa", 2);
        replacing("aaaaa", "aa", "b", 2, "bba", 2);
        replacing("abc", "a", "abc", 1, "abcbc", 3);
        replacing("aab\nab", "^a", "-", 2, "-ab\n-b", 5);
        replacing("xx\nxx", "x$", ".", 2, "x.\nx.", 5);
        replacing("xaxbx", "x*", "", 3, "ab", 2);
        replacing("a\nb\n", "\n", "; ", 2, "a; b; ", 6);
        replacing("same", "same", "same", 1, "same", 4);
        nothingFound();
        limits();
        selectionDoesNotCount();
        Check.end();
    }

    private static void replacing(String text, String pattern, String put, int count, String due, int cursor) {
        DraftTree x = Check.withText(text);
        Check.compile(x, pattern);
        x.go(1, false);
        Check.type(x, put);
        String what = "replace of " + pattern + " in " + text + " by " + put;
        Check.same(what, x.replace(), count);
        Check.same("seen after " + what, Check.seen(x), due + " 2 3 " + cursor + " -1 0 -1 0 1");
        Check.same("parent text after " + what, x.undo(), 1);
        Check.same("parent text after " + what, Check.text(x), text);
        Check.same("place where it was left", Check.cursor(x), 1);
    }

    private static void nothingFound() {
        DraftTree x = Check.withText("abc");
        Check.compile(x, "z|()");
        x.go(1, true);
        Check.type(x, "slip");
        Check.same("replace of none", x.replace(), 0);
        Check.same("seen then", Check.seen(x), "abc 1 2 1 3 0 -1 0");
        Check.fillStates(x);
        Check.type(x, "slip");
        Check.same("replace of none with 40 states", x.replace(), 0);
        Check.same("slip then", x.figure(4), 0);
    }

    private static void limits() {
        DraftTree none = Check.withText("abc");
        Check.type(none, "x");
        Check.refused(none, "replace without pattern", Check.STATE, none::replace);

        DraftTree x = Check.withText(Check.times("ab", 40));
        Check.compile(x, "a");
        Check.type(x, "123");
        Check.same("replace to 160", x.replace(), 40);
        Check.same("length then", x.length(), 160);
        Check.compile(x, "1");
        Check.type(x, "456");
        Check.refused(x, "replace to 240", Check.STATE, x::replace);
        x.wipe();
        Check.type(x, "4");
        Check.same("replace in a full text", x.replace(), 40);
        Check.compile(x, "^4");
        Check.type(x, "56");
        Check.refused(x, "replace to 161", Check.STATE, x::replace);
        x.go(160, false);
        x.erase(-2);
        x.insert();
        Check.same("the slip stayed", Check.text(x).substring(156), "4256");
    }

    private static void selectionDoesNotCount() {
        DraftTree x = Check.withText("aXbXc");
        Check.compile(x, "X");
        x.go(2, true);
        Check.type(x, "YY");
        Check.same("replace with a selection", x.replace(), 2);
        Check.same("seen then", Check.seen(x), "aYYbYYc 2 3 6 -1 0 -1 0 1");
        Check.fillStates(x);
        Check.compile(x, "Y");
        Check.refused(x, "replace with 40 states", Check.STATE, x::replace);
        DraftTree whole = Check.withText(Check.times("q", 160));
        Check.compile(whole, ".");
        Check.type(whole, "r");
        Check.same("replace of 160", whole.replace(), 160);
        Check.same("text then", Check.text(whole), Check.times("r", 160));
    }
}
