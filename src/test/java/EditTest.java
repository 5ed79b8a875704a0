/** Promises 4 and 5: insert, erase; the text's 160 and the 40 states. */
final class EditTest {
    private static final String FULL_TEXT = "a".repeat(160);
    private static final String FULL_SLIP = "b".repeat(24);

    public static void main(String[] args) {
        insertingNothing();
        inserting();
        insertingOverSelection();
        textTooLong();
        textTooLongWithSelection();
        insertWithFortyStates();
        erasingBehind();
        erasingBefore();
        erasingNothing();
        erasingSelection();
        eraseLeavesTheSlip();
        eraseWithFortyStates();
        Check.end();
    }

    private static void insertingNothing() {
        new Run().insert().answers(0).changesNothing();
        Run run = new Run().text("abc").go(1).pattern("b");
        run.insert().answers(1).changesNothing();
        run.undo().insert().answers(0).changesNothing();
        new Run().text(FULL_TEXT).insert().answers(7).changesNothing();
        run.keep(3).keep(1).insert().answers(1).changesNothing();
        new Run().text("abc").states(39).insert().answers(38).changesNothing();
    }

    private static void inserting() {
        new Run().type("ace").insert().answers(1).sees("ace", 1, 2, 3, -1, 0);
        Run run = new Run().text("ace");
        run.go(1).type("b").insert().answers(2).sees("abce", 2, 3, 2, -1, 0).parent(2).answers(1);
        run.go(0).type("b").insert().answers(2).sees("bace", 2, 3, 1, -1, 0);
        run.go(3).type("b").insert().answers(2).sees("aceb", 2, 3, 4, -1, 0);
        run.go(1).type("b").insert().undo().answers(1).sees("ace", 1, 3, 1, -1, 0);
        run.undo().type("\n").insert().answers(2).sees("\n", 2, 3, 1, -1, 0).parent(2).answers(0);
    }

    private static void insertingOverSelection() {
        Run run = new Run().text("abcdef").go(1);
        run.keep(4).type("XY").insert().answers(2).sees("aXYef", 2, 3, 3, -1, 0);
        run.keep(4).insert().answers(2).sees("aef", 2, 3, 1, -1, 0);
        run.keep(2).type("b").insert().answers(2).sees("abcdef", 2, 3, 2, -1, 0);
        run.keep(0).type("XY").insert().answers(2).sees("XYbcdef", 2, 3, 2, -1, 0);
        run.keep(0).insert().answers(2).sees("bcdef", 2, 3, 0, -1, 0);
        run.keep(6).type("Z").insert().answers(2).sees("aZ", 2, 3, 2, -1, 0);
        run.go(0).keep(6).insert().answers(2).sees("", 2, 3, 0, -1, 0);
        run.keep(4).type("XY").insert().undo().answers(1).sees("abcdef", 1, 3, 4, -1, 0);
    }

    private static void textTooLong() {
        new Run().text("a".repeat(159)).type("b").insert().answers(8).length().answers(160);
        new Run().text("a".repeat(159)).type("bc").insert().refused(Check.STATE);
        new Run().text(FULL_TEXT).go(80).type("b").insert().refused(Check.STATE);
        new Run().text("a".repeat(136)).type(FULL_SLIP).insert().answers(7).length().answers(160);
        new Run().text("a".repeat(137)).type(FULL_SLIP).insert().refused(Check.STATE).wipe().answers(24);
        new Run().text("a".repeat(159)).type("bc").insert().wipe().type("d").insert().answers(8);
    }

    private static void textTooLongWithSelection() {
        Run full = new Run().text(FULL_TEXT).go(70);
        full.keep(71).type("b").insert().answers(8).length().answers(160);
        full.keep(71).type("bc").insert().refused(Check.STATE);
        full.keep(69).type("bc").insert().refused(Check.STATE);
        full.keep(94).type(FULL_SLIP).insert().answers(8).length().answers(160);
        full.keep(93).type(FULL_SLIP).insert().refused(Check.STATE);
        full.go(0).keep(160).type(FULL_SLIP).insert().answers(8).sees(FULL_SLIP, 8, 9, 24, -1, 0);
    }

    private static void insertWithFortyStates() {
        new Run().text("abc").states(39).type("d").insert().answers(39).figure(1).answers(40);
        new Run().text("abc").states(39).keep(0).insert().answers(39).figure(1).answers(40);
        Run full = new Run().text("abc").states(40);
        full.type("d").insert().refused(Check.STATE);
        full.keep(0).insert().refused(Check.STATE);
        full.keep(0).type("d").insert().refused(Check.STATE);
        full.jump(0).type("d").insert().refused(Check.STATE);
        new Run().text(FULL_TEXT).states(40).type("abc").insert().refused(Check.STATE);
        // Promise 4 names the 40 states alone, without the edit that promises 5 and 10 speak of there.
        full.insert().refused(Check.STATE);
    }

    private static void erasingBehind() {
        Run run = new Run().text("abcdefgh").go(3);
        run.erase(1).answers(1).sees("abcefgh", 2, 3, 3, -1, 0).parent(2).answers(1);
        run.erase(4).answers(4).sees("abch", 2, 3, 3, -1, 0);
        run.erase(5).answers(5).sees("abc", 2, 3, 3, -1, 0);
        run.erase(6).answers(5).sees("abc", 2, 3, 3, -1, 0);
        run.erase(Integer.MAX_VALUE).answers(5).sees("abc", 2, 3, 3, -1, 0);
        run.go(0).erase(8).answers(8).sees("", 2, 3, 0, -1, 0);
        run.go(7).erase(2).answers(1).sees("abcdefg", 2, 3, 7, -1, 0);
        run.erase(2).undo().answers(1).sees("abcdefgh", 1, 3, 3, -1, 0);
        new Run().text(FULL_TEXT).go(0).erase(160).answers(160).length().answers(0);
        new Run().text(FULL_TEXT).go(0).erase(159).answers(159).length().answers(1);
    }

    private static void erasingBefore() {
        Run run = new Run().text("abcdefgh").go(3);
        run.erase(-1).answers(1).sees("abdefgh", 2, 3, 2, -1, 0).parent(2).answers(1);
        run.erase(-2).answers(2).sees("adefgh", 2, 3, 1, -1, 0);
        run.erase(-3).answers(3).sees("defgh", 2, 3, 0, -1, 0);
        run.erase(-4).answers(3).sees("defgh", 2, 3, 0, -1, 0);
        run.erase(-Integer.MAX_VALUE).answers(3).sees("defgh", 2, 3, 0, -1, 0);
        run.erase(Integer.MIN_VALUE).answers(3).sees("defgh", 2, 3, 0, -1, 0);
        run.go(8).erase(-8).answers(8).sees("", 2, 3, 0, -1, 0);
        run.go(1).erase(-2).answers(1).sees("bcdefgh", 2, 3, 0, -1, 0);
        run.erase(-2).undo().answers(1).sees("abcdefgh", 1, 3, 3, -1, 0);
        new Run().text(FULL_TEXT).erase(-161).answers(160).length().answers(0);
    }

    private static void erasingNothing() {
        int[] behind = {0, 1, 2, Integer.MAX_VALUE};
        int[] before = {0, -1, -2, Integer.MIN_VALUE};
        Run run = new Run().text("abc");
        for (int n : behind) {
            new Run().erase(n).answers(0).changesNothing();
            run.erase(n).answers(0).changesNothing();
        }
        for (int n : before) {
            new Run().erase(n).answers(0).changesNothing();
            run.go(0).erase(n).answers(0).changesNothing();
        }
        run.go(1).erase(0).answers(0).changesNothing();
        run.keep(1).keep(3).erase(0).answers(0).changesNothing();
    }

    private static void erasingSelection() {
        int[] counts = {0, 1, -1, 3, -3, 99, Integer.MIN_VALUE, Integer.MAX_VALUE};
        Run run = new Run().text("abcdefgh");
        for (int n : counts) {
            run.go(2).keep(5).erase(n).answers(3).sees("abfgh", 2, 3, 2, -1, 0);
            run.go(5).keep(2).erase(n).answers(3).sees("abfgh", 2, 3, 2, -1, 0);
            run.go(2).keep(3).erase(n).answers(1).sees("abdefgh", 2, 3, 2, -1, 0);
            run.keep(0).erase(n).answers(8).sees("", 2, 3, 0, -1, 0);
        }
        run.go(2).keep(5).erase(0).undo().answers(1).sees("abcdefgh", 1, 3, 5, -1, 0);
    }

    private static void eraseLeavesTheSlip() {
        Run run = new Run().text("abc").type("xyz");
        run.erase(-1).answers(1).sees("ab", 2, 3, 2, -1, 3).insert().sees("abxyz", 3, 4, 5, -1, 0);
        run.keep(0).erase(1).answers(3).sees("", 2, 3, 0, -1, 3);
    }

    private static void eraseWithFortyStates() {
        new Run().text("abc").states(39).erase(-1).answers(1).figure(0).answers(39);
        new Run().text("abc").states(39).keep(0).erase(0).answers(40).figure(1).answers(40);
        Run full = new Run().text("abc").states(40);
        full.erase(-1).refused(Check.STATE);
        full.go(0).erase(1).refused(Check.STATE);
        full.keep(1).erase(0).refused(Check.STATE);
        full.type("xyz").go(2).erase(Integer.MIN_VALUE).refused(Check.STATE);
        full.erase(1).answers(0).changesNothing();
        full.erase(0).answers(0).changesNothing();
        full.go(0).erase(-1).answers(0).changesNothing();
        full.jump(0).erase(5).answers(0).changesNothing();
        full.jump(1).erase(-1).refused(Check.STATE);
    }
}
