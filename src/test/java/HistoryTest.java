/** Promises 11, 12, 13 and 18: undo, redo, jump, parent; leaving a state and coming to another one. */
final class HistoryTest {
    private static final int[] NO_STATES = {-1, 5, 6, 39, 40, Integer.MIN_VALUE, Integer.MAX_VALUE};

    public static void main(String[] args) {
        undoing();
        undoOfStateZero();
        redoing();
        redoWithoutAChild();
        redoToTheOneThatOneCameToLast();
        everyWayOfComing();
        jumping();
        jumpingToTheSame();
        noSuchState();
        parents();
        placesOfTheirOwn();
        marksAreNotKept();
        slipAndPatternStay();
        allFortyStates();
        Check.end();
    }

    /** 0 - 1 - 2 and 1 - 3, and 0 - 4; the present one is 4. */
    private static Run tree() {
        return new Run().text("a").text("b").undo().text("c").jump(0).text("d");
    }

    private static void undoing() {
        new Run().text("abc").undo().answers(0).sees("", 0, 2, 0, -1, 0);
        tree().undo().answers(0);
        tree().jump(3).undo().answers(1).sees("a", 1, 5, 1, -1, 0).undo().answers(0).sees("", 0, 5, 0, -1, 0);
        tree().jump(2).undo().answers(1).undo().answers(0);
    }

    private static void undoOfStateZero() {
        new Run().undo().refused(Check.MISSING);
        new Run().type("slip").undo().refused(Check.MISSING);
        tree().undo().undo().refused(Check.MISSING);
        tree().jump(0).undo().refused(Check.MISSING);
        tree().jump(0).undo().redo().answers(4);
    }

    private static void redoing() {
        new Run().text("abc").undo().redo().answers(1).sees("abc", 1, 2, 3, -1, 0);
        new Run().text("a").text("b").undo().undo().redo().answers(1).redo().answers(2).sees("ab", 2, 3, 2, -1, 0);
    }

    private static void redoWithoutAChild() {
        new Run().redo().refused(Check.MISSING);
        new Run().text("abc").go(1).keep(2).type("x").redo().refused(Check.MISSING);
        new Run().text("abc").undo().redo().redo().refused(Check.MISSING);
        tree().redo().refused(Check.MISSING);
        tree().jump(2).redo().refused(Check.MISSING);
        tree().jump(3).redo().refused(Check.MISSING);
    }

    private static void redoToTheOneThatOneCameToLast() {
        tree().jump(0).redo().answers(4);
        tree().jump(1).redo().answers(3);
        tree().jump(1).jump(0).redo().answers(1);
        tree().jump(2).jump(1).redo().answers(2);
        tree().jump(3).jump(2).jump(1).redo().answers(2);
        tree().jump(2).jump(3).jump(1).redo().answers(3);
        // Coming to 2 or 3 is not coming to 1, through which the way to them leads.
        tree().jump(2).jump(0).redo().answers(4);
        tree().jump(3).jump(4).jump(0).redo().answers(4);
        tree().jump(1).jump(4).jump(4).jump(0).redo().answers(4);
        tree().jump(1).jump(2).jump(0).redo().answers(1).redo().answers(2);
    }

    private static void everyWayOfComing() {
        tree().jump(2).undo().answers(1).undo().redo().answers(1);
        tree().jump(1).undo().redo().jump(4).jump(0).redo().answers(4);
        tree().jump(2).jump(1).redo().undo().redo().answers(2);
        tree().jump(1).type("e").insert().answers(5).undo().redo().answers(5);
        tree().jump(1).erase(-1).undo().redo().answers(5);
        tree().jump(1).pattern("a").replace().undo().redo().answers(5);
        tree().jump(1).type("e").insert().jump(2).undo().redo().answers(2);
        tree().jump(4).undo().redo().answers(4);
        // A redo is a way of coming too: to 1 by redo, then from 0 again.
        tree().jump(1).jump(0).redo().answers(1).undo().redo().answers(1);
    }

    private static void jumping() {
        tree().jump(0).answers("done").sees("", 0, 5, 0, -1, 0);
        tree().jump(1).answers("done").sees("a", 1, 5, 1, -1, 0);
        tree().jump(2).answers("done").sees("ab", 2, 5, 2, -1, 0);
        tree().jump(3).answers("done").sees("ac", 3, 5, 2, -1, 0);
        tree().jump(3).jump(4).answers("done").sees("d", 4, 5, 1, -1, 0);
        new Run().jump(0).answers("done").changesNothing();
    }

    private static void jumpingToTheSame() {
        Run run = tree().jump(2).keep(0).type("xy");
        run.sees("ab", 2, 5, 0, 2, 2).jump(2).answers("done").sees("ab", 2, 5, 0, -1, 2);
        run.jump(2).undo().answers(1).redo().answers(2).sees("ab", 2, 5, 0, -1, 2);
        run.jump(2).insert().answers(5).sees("xyab", 5, 6, 2, -1, 0);
        new Run().text("ab").go(1).jump(1).answers("done").changesNothing();
    }

    private static void noSuchState() {
        for (int state : NO_STATES) {
            tree().keep(0).jump(state).refused(Check.ARGUMENT);
            tree().jump(1).jump(state).refused(Check.ARGUMENT);
            tree().parent(state).refused(Check.ARGUMENT);
        }
        new Run().jump(1).refused(Check.ARGUMENT);
        new Run().jump(-1).refused(Check.ARGUMENT);
        new Run().parent(-1).refused(Check.ARGUMENT);
        new Run().text("a").jump(2).refused(Check.ARGUMENT);
        new Run().text("a").undo().jump(1).answers("done");
    }

    private static void parents() {
        int[] due = {-1, 0, 1, 1, 0};
        for (int state = 0; state < due.length; state++) {
            tree().parent(state).answers(due[state]).changesNothing();
            tree().jump(state).parent(state).answers(due[state]);
        }
        tree().jump(2).text("e").parent(5).answers(2);
        tree().jump(2).keep(0).erase(0).parent(5).answers(2);
        tree().jump(3).pattern("c").replace().parent(5).answers(3);
    }

    private static void placesOfTheirOwn() {
        Run run = new Run().text("abcdef").go(4).erase(1).go(2);
        run.undo().figure(2).answers(4);
        run.undo().go(5).redo().figure(2).answers(2);
        run.undo().keep(5).redo().undo().figure(2).answers(5);
        run.undo().go(5).jump(0).figure(2).answers(0);
        run.undo().go(5).jump(0).jump(1).figure(2).answers(5);
        run.jump(0).jump(2).figure(2).answers(2);
        // A place that was gone to and refused, or found, counts as the cursor does.
        run.go(9).undo().redo().figure(2).answers(2);
        run.pattern("f").find(0).undo().redo().figure(2).answers(5);
        new Run().text("ab").go(0).text("c").undo().sees("ab", 1, 3, 0, -1, 0);
        new Run().text("ab").go(0).text("c").undo().redo().sees("cab", 2, 3, 1, -1, 0);
    }

    private static void marksAreNotKept() {
        Run run = new Run().text("abcdef").text("g").keep(3);
        run.undo().figure(3).answers(-1);
        run.undo().redo().sees("abcdefg", 2, 3, 3, -1, 0);
        run.jump(1).figure(3).answers(-1);
        run.jump(2).figure(3).answers(-1);
        run.undo().keep(1).redo().figure(3).answers(-1);
        run.undo().keep(1).redo().undo().sees("abcdef", 1, 3, 1, -1, 0);
        run.erase(0).figure(3).answers(-1);
        run.erase(0).undo().figure(3).answers(-1);
    }

    private static void slipAndPatternStay() {
        Run run = new Run().text("ab").text("ab").pattern("b").type("*").compile().type("x");
        Run[] moved = {run.undo(), run.undo().redo().undo(), run.jump(1), run.jump(1).jump(1)};
        for (Run one : moved) {
            one.sees("ab", 1, 3, 2, -1, 2);
            one.fault().answers(0);
            one.find(0).answers(1);
            one.insert().sees("ab*x", 3, 4, 4, -1, 0);
        }
    }

    private static void allFortyStates() {
        Run full = new Run().states(40);
        full.jump(39).answers("done").figure(0).answers(39);
        full.jump(40).refused(Check.ARGUMENT);
        full.parent(39).answers(38);
        full.parent(40).refused(Check.ARGUMENT);
        Run down = full;
        for (int state = 38; state >= 0; state--) {
            down = down.undo().answers(state);
        }
        down.undo().refused(Check.MISSING);
        Run up = down;
        for (int state = 1; state < 40; state++) {
            up = up.redo().answers(state);
        }
        up.redo().refused(Check.MISSING);
        allFromStateZero();
    }

    private static void allFromStateZero() {
        Run wide = new Run();
        for (int state = 1; state < 40; state++) {
            wide = wide.jump(0).type("w").insert();
        }
        wide.answers(39).undo().answers(0).redo().answers(39);
        wide.jump(17).undo().redo().answers(17);
        wide.parent(39).answers(0);
        wide.jump(39).redo().refused(Check.MISSING);
        wide.jump(0).type("w").insert().refused(Check.STATE);
    }
}
