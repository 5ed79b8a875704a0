/** Promises 11, 12, 13 and 18: undo, redo, jump, parent. */
final class HistoryTest {
    public static void main(String[] args) {
        undoing();
        redoing();
        redoingWhatOneCameToLast();
        jumping();
        parents();
        placesOfTheirOwn();
        Check.end();
    }

    /** 0 - 1 - 2 and 1 - 3, and 0 - 4; the present one is 4. */
    private static DraftTree tree() {
        DraftTree x = new DraftTree();
        Check.type(x, "a");
        x.insert();
        Check.type(x, "b");
        x.insert();
        x.undo();
        Check.type(x, "c");
        x.insert();
        x.jump(0);
        Check.type(x, "d");
        x.insert();
        return x;
    }

    private static void undoing() {
        DraftTree x = Check.withText("abc");
        x.go(1, true);
        Check.same("undo", x.undo(), 0);
        Check.same("seen then", Check.seen(x), " 0 2 0 -1 0 -1 0");
        Check.type(x, "slip");
        Check.refused(x, "undo of state 0", Check.MISSING, x::undo);
        DraftTree y = tree();
        y.jump(3);
        Check.same("undo of 3", y.undo(), 1);
        Check.same("undo of 1", y.undo(), 0);
    }

    private static void redoing() {
        DraftTree x = Check.withText("abc");
        Check.refused(x, "redo without a child", Check.MISSING, x::redo);
        x.go(2, true);
        x.undo();
        Check.same("redo", x.redo(), 1);
        Check.same("seen then", Check.seen(x), "abc 1 2 2 -1 0 -1 0");
        Check.refused(x, "redo of the last one", Check.MISSING, x::redo);
    }

    private static void redoingWhatOneCameToLast() {
        DraftTree x = tree();
        x.jump(0);
        Check.same("to the newest one", x.redo(), 4);
        x.jump(2);
        x.jump(0);
        Check.same("a jump past a state does not come to it", x.redo(), 4);
        x.jump(2);
        Check.same("undo comes to a state", x.undo(), 1);
        x.undo();
        Check.same("redo to where undo came", x.redo(), 1);
        Check.same("redo to where jump came", x.redo(), 2);
        x.jump(3);
        x.jump(1);
        Check.same("redo to where jump came later", x.redo(), 3);
        x.jump(4);
        x.jump(4);
        x.jump(1);
        x.jump(0);
        Check.same("redo to the latest of all", x.redo(), 1);
        Check.same("redo below it", x.redo(), 3);
    }

    private static void jumping() {
        DraftTree x = tree();
        x.jump(2);
        Check.same("seen at 2", Check.seen(x), "ab 2 5 2 -1 0 -1 0 1 1 0");
        x.go(0, true);
        x.jump(2);
        Check.same("jump to the same", Check.seen(x), "ab 2 5 0 -1 0 -1 0 1 1 0");
        Check.same("undo after it", x.undo(), 1);
        Check.same("redo after it", x.redo(), 2);
        x.go(1, true);
        int[] states = {-1, 5, 40, Integer.MIN_VALUE, Integer.MAX_VALUE};
        for (int state : states) {
            Check.refused(x, "jump to " + state, Check.ARGUMENT, () -> x.jump(state));
        }
        Check.fillStates(x);
        x.jump(39);
        Check.refused(x, "jump to 40 of 40", Check.ARGUMENT, () -> x.jump(40));
    }

    private static void parents() {
        DraftTree x = tree();
        int[] due = {-1, 0, 1, 1, 0};
        for (int state = 0; state < due.length; state++) {
            Check.same("parent of " + state, x.parent(state), due[state]);
        }
        int[] states = {-1, 5, 40, Integer.MIN_VALUE, Integer.MAX_VALUE};
        for (int state : states) {
            Check.refused(x, "parent of " + state, Check.ARGUMENT, () -> x.parent(state));
        }
    }

    private static void placesOfTheirOwn() {
        DraftTree x = Check.withText("abcdef");
        x.go(4, false);
        x.erase(1);
        x.go(2, false);
        x.undo();
        Check.same("where the edit was begun", Check.cursor(x), 4);
        x.go(5, true);
        x.redo();
        Check.same("where it was left", Check.cursor(x), 2);
        x.jump(0);
        Check.same("place of state 0", Check.cursor(x), 0);
        x.jump(1);
        Check.same("place of state 1", Check.cursor(x), 5);
        Check.same("mark of state 1", Check.mark(x), -1);
    }
}
