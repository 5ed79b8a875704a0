/** Promises 1 to 3: a new object, type, wipe; what a character is, and the slip's 24. */
final class SlipTest {
    private static final String LETTERS = "abcdefghijklmnopqrstuvwxyz";
    private static final String FULL = LETTERS.substring(0, 24);

    public static void main(String[] args) {
        newObject();
        newPattern();
        twoObjects();
        characters();
        noCharacterAddsNothing();
        twentyFour();
        emptiedSlipTakesTwentyFourAgain();
        wiping();
        wipingLeavesTheRest();
        Check.end();
    }

    private static void newObject() {
        new Run().sees("", 0, 1, 0, -1, 0);
        new Run().length().answers(0);
        new Run().fault().answers(-1);
        new Run().parent(0).answers(-1);
        new Run().parent(1).refused(Check.ARGUMENT);
        new Run().line(0, 0).answers(1);
        new Run().wipe().answers(0);
        new Run().undo().refused(Check.MISSING);
        new Run().redo().refused(Check.MISSING);
    }

    /** No pattern is not the same as the empty one: find and replace ask for a pattern first. */
    private static void newPattern() {
        new Run().find(0).refused(Check.STATE);
        new Run().replace().refused(Check.STATE);
        new Run().compile().answers("done").find(0).refused(Check.MISSING);
        new Run().compile().replace().answers(0);
    }

    private static void twoObjects() {
        DraftTree x = new DraftTree();
        DraftTree y = new Run().text("ab").type("c").make();
        Check.same("text beside another object", x.length(), 0);
        Check.same("slip beside another object", x.figure(4), 0);
        x.type('z');
        y.insert();
        Check.same("text of the other object", Run.text(y), "abc");
    }

    private static void characters() {
        for (int code = 0; code <= 0xffff; code++) {
            DraftTree x = new DraftTree();
            boolean due = code == 10 || (code >= 32 && code <= 126);
            Check.same("type of " + code, x.type((char) code), due);
            Check.same("slip after type of " + code, x.figure(4), due ? 1 : 0);
            if (due) {
                x.insert();
                Check.same("text after type of " + code, x.at(0), (char) code);
            }
        }
    }

    private static void noCharacterAddsNothing() {
        int[] codes = {0, 9, 11, 13, 31, 127, 128, 160, 255, 256 + 'a', 0xffff};
        for (int code : codes) {
            Run run = new Run().text("x").pattern("x").type("ab").keep(0);
            run.type(code).answers(false).changesNothing();
            run.type(code).type("c").insert().sees("abc", 2, 3, 3, -1, 0);
        }
    }

    private static void twentyFour() {
        Run almost = new Run().type(FULL.substring(0, 23));
        almost.figure(4).answers(23);
        Run full = almost.type('x').answers(true);
        full.figure(4).answers(24);
        full.type('y').answers(false).changesNothing();
        full.type(10).answers(false).changesNothing();
        full.type(9).answers(false).changesNothing();
        full.type("yz").insert().sees(FULL, 1, 2, 24, -1, 0);
    }

    private static void emptiedSlipTakesTwentyFourAgain() {
        Run full = new Run().type(FULL);
        Run[] emptied = {full.wipe(), full.insert(), full.compile(), full.wipe().compile().type(FULL).replace()};
        for (Run run : emptied) {
            run.figure(4).answers(0);
            Run again = run.type("ABCDEFGHIJKLMNOPQRSTUVW").type('X').answers(true);
            again.type('Y').answers(false);
            again.figure(4).answers(24);
        }
    }

    private static void wiping() {
        new Run().wipe().answers(0).changesNothing();
        new Run().type("a").wipe().answers(1).sees("", 0, 1, 0, -1, 0);
        new Run().type(LETTERS.substring(0, 23)).wipe().answers(23);
        new Run().type(FULL).wipe().answers(24).wipe().answers(0);
        new Run().type("abc").wipe().type("d").insert().sees("d", 1, 2, 1, -1, 0);
    }

    private static void wipingLeavesTheRest() {
        Run run = new Run().text("abab").pattern("b").type(")").compile().keep(1);
        run.wipe().answers(1).sees("abab", 1, 2, 1, 4, 0);
        run.wipe().fault().answers(0);
        run.wipe().find(2).answers(3);
        run.wipe().insert().sees("a", 2, 3, 1, -1, 0);
    }
}
