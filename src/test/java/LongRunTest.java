/** An object is used for at most 512 calls: the last of them is still answered as the others are. */
final class LongRunTest {
    private static final int CALLS = 512;

    public static void main(String[] args) {
        typing();
        compiling();
        refusing();
        finding();
        replacing();
        wandering();
        fortyFullStates();
        Check.end();
    }

    private static void typing() {
        DraftTree x = new DraftTree();
        for (int call = 1; call <= CALLS; call++) {
            Check.same("type, call " + call, x.type('a'), call <= 24);
        }
    }

    private static void compiling() {
        DraftTree x = new DraftTree();
        for (int call = 1; call < CALLS; call += 2) {
            Check.same("type before compile, call " + call, x.type((char) (' ' + 1 + call % 2)), true);
            x.compile();
        }
        DraftTree y = new DraftTree();
        for (int call = 1; call < CALLS; call++) {
            y.compile();
        }
        Check.same("fault, call " + CALLS, y.fault(), -1);
    }

    private static void refusing() {
        DraftTree x = new Run().text("ab").type("a)").make();
        for (int call = 6; call < CALLS; call++) {
            Check.same("compile, call " + call, Run.answer(LongRunTest::compile, x), Check.ARGUMENT);
        }
        Check.same("fault, call " + CALLS, x.fault(), 1);
    }

    private static Object compile(DraftTree x) {
        x.compile();
        return "done";
    }

    private static void finding() {
        DraftTree x = new Run().text("a".repeat(159) + "b").pattern("(a*)*b").make();
        for (int call = 175; call < CALLS; call++) {
            Check.same("find, call " + call, x.find(call % 160), call % 160);
        }
        Check.same("cursor, call " + CALLS, x.figure(2), 160);
    }

    private static void replacing() {
        DraftTree x = new Run().text("ab".repeat(80)).pattern("a").make();
        for (int state = 8; state < 40; state++) {
            x.type('a');
            Check.same("replace to state " + state, x.replace(), 80);
        }
        for (int call = 234; call < CALLS; call++) {
            Check.same("replace, call " + call, Run.answer(DraftTree::replace, x), Check.STATE);
        }
        Check.same("states, call " + CALLS, x.figure(1), 40);
    }

    private static void wandering() {
        DraftTree x = new Run().states(40).make();
        for (int call = 79; call < CALLS; call++) {
            Object due = call % 2 == 1 ? 38 : 39;
            Check.same("undo or redo, call " + call, call % 2 == 1 ? x.undo() : x.redo(), due);
        }
        Check.same("state, call " + CALLS, x.figure(0), 39 - (CALLS - 79) % 2);
    }

    /** As much as one object can be made to hold. */
    private static void fortyFullStates() {
        Run run = new Run().text("c".repeat(160)).pattern("c|d");
        for (int state = 8; state < 40; state++) {
            run = run.type(state % 2 == 0 ? "d" : "c").replace();
        }
        run.answers(160).sees("c".repeat(160), 39, 40, 160, -1, 0);
        run.jump(38).sees("d".repeat(160), 38, 40, 160, -1, 0);
        run.jump(7).sees("c".repeat(160), 7, 40, 160, -1, 0);
    }
}
