/** Promises 1 to 3: a new object, type, wipe. */
final class SlipTest {
    public static void main(String[] args) {
        newObject();
        typing();
        wiping();
        Check.end();
    }

    private static void newObject() {
        DraftTree x = new DraftTree();
        Check.same("seen of a new one", Check.seen(x), " 0 1 0 -1 0 -1");
        Check.same("fault of a new one", x.fault(), -1);
        Check.same("lines of a new one", x.line(0, 0), 1);
        Check.refused(x, "find without pattern", Check.STATE, () -> x.find(0));
        Check.refused(x, "replace without pattern", Check.STATE, x::replace);
        Check.refused(x, "undo of state 0", Check.MISSING, x::undo);
        Check.refused(x, "redo of state 0", Check.MISSING, x::redo);
        DraftTree y = new DraftTree();
        Check.type(y, "ab");
        Check.same("the slip of another object", x.figure(4), 0);
    }

    private static void typing() {
        for (int c = 0; c <= 0xffff; c++) {
            DraftTree x = new DraftTree();
            boolean due = c == 10 || (c >= 32 && c <= 126);
            Check.same("type of " + c, x.type((char) c), due);
            Check.same("slip after type of " + c, x.figure(4), due ? 1 : 0);
        }
        DraftTree x = new DraftTree();
        Check.type(x, "abcdefghijklmnopqrstuvwx");
        Check.same("25th", x.type('y'), false);
        Check.same("25th, no character", x.type('\t'), false);
        Check.same("slip when full", x.figure(4), 24);
        x.insert();
        Check.same("text", Check.text(x), "abcdefghijklmnopqrstuvwx");
        Check.same("type after insert", x.type('y'), true);
    }

    private static void wiping() {
        DraftTree x = new DraftTree();
        Check.same("wipe of nothing", x.wipe(), 0);
        Check.type(x, "abc");
        Check.same("wipe of three", x.wipe(), 3);
        Check.same("slip after wipe", x.figure(4), 0);
        Check.same("second wipe", x.wipe(), 0);
        Check.type(x, "d");
        x.insert();
        Check.same("text after wipe", Check.text(x), "d");
        Check.type(x, Check.times("z", 24));
        Check.same("wipe of a full one", x.wipe(), 24);
    }
}
