/** Promises 4 and 5: insert, erase. */
final class EditTest {
    public static void main(String[] args) {
        inserting();
        insertingOverSelection();
        insertLimits();
        erasing();
        erasingSelection();
        eraseLimits();
        Check.end();
    }

    private static void inserting() {
        DraftTree x = new DraftTree();
        Check.same("insert of nothing", x.insert(), 0);
        Check.same("seen then", Check.seen(x), " 0 1 0 -1 0 -1");
        Check.type(x, "ace");
        Check.same("first insert", x.insert(), 1);
        Check.same("seen then", Check.seen(x), "ace 1 2 3 -1 0 -1 0");
        x.go(1, false);
        Check.type(x, "b");
        Check.same("second insert", x.insert(), 2);
        Check.same("seen then", Check.seen(x), "abce 2 3 2 -1 0 -1 0 1");
        Check.same("insert of nothing later", x.insert(), 2);
        Check.same("states then", x.figure(1), 3);
        x.undo();
        Check.same("text before stays", Check.text(x), "ace");
        Check.same("place where it was left", Check.cursor(x), 1);
    }

    private static void insertingOverSelection() {
        DraftTree x = Check.withText("abcdef");
        x.go(1, false);
        x.go(4, true);
        Check.type(x, "XY");
        Check.same("insert over a selection", x.insert(), 2);
        Check.same("seen then", Check.seen(x), "aXYef 2 3 3 -1 0 -1 0 1");
        x.go(2, true);
        Check.same("insert of an empty slip over one before", x.insert(), 3);
        Check.same("seen then", Check.seen(x), "aXef 3 4 2 -1 0 -1 0 1 2");
        x.go(1, false);
        x.go(2, true);
        Check.type(x, "X");
        Check.same("insert of the same", x.insert(), 4);
        Check.same("text then", Check.text(x), "aXef");
    }

    private static void insertLimits() {
        DraftTree x = Check.withText(Check.times("a", 158));
        Check.type(x, "bcd");
        Check.refused(x, "insert to 161", Check.STATE, x::insert);
        x.go(157, true);
        Check.same("insert to 160", Check.text(x).length(), 158);
        x.insert();
        Check.same("length then", x.length(), 160);
        Check.type(x, "e");
        Check.refused(x, "insert into a full text", Check.STATE, x::insert);
        x.go(159, true);
        x.insert();
        Check.same("full text with one changed", x.at(159), 'e');

        DraftTree full = Check.withText("abc");
        Check.fillStates(full);
        Check.refused(full, "insert of nothing with 40 states", Check.STATE, full::insert);
        Check.type(full, "d");
        Check.refused(full, "insert with 40 states", Check.STATE, full::insert);
        full.wipe();
        full.go(0, true);
        Check.refused(full, "insert over a selection with 40 states", Check.STATE, full::insert);
    }

    private static void erasing() {
        DraftTree x = Check.withText("abcdefgh");
        Check.same("erase behind the end", x.erase(3), 0);
        Check.same("erase 0", x.erase(0), 0);
        Check.same("states then", x.figure(1), 2);
        x.go(3, false);
        Check.same("erase 2", x.erase(2), 2);
        Check.same("seen then", Check.seen(x), "abcfgh 2 3 3 -1 0 -1 0 1");
        Check.same("erase -2", x.erase(-2), 2);
        Check.same("seen then", Check.seen(x), "afgh 3 4 1 -1 0 -1 0 1 2");
        Check.same("erase -2 with one there", x.erase(-2), 1);
        Check.same("seen then", Check.seen(x), "fgh 4 5 0 -1 0 -1 0 1 2 3");
        Check.same("erase -1 with none there", x.erase(-1), 0);
        Check.same("erase the least", x.erase(Integer.MIN_VALUE), 0);
        Check.same("states then", x.figure(1), 5);
        x.go(1, false);
        Check.same("erase the most", x.erase(Integer.MAX_VALUE), 2);
        Check.same("erase the least later", x.erase(Integer.MIN_VALUE), 1);
        Check.same("length then", x.length(), 0);
        Check.type(x, "kept");
        Check.same("erase in an empty text", x.erase(1), 0);
        Check.same("slip then", x.figure(4), 4);
    }

    private static void erasingSelection() {
        int[] counts = {0, 1, -1, 99, Integer.MIN_VALUE};
        for (int n : counts) {
            DraftTree x = Check.withText("abcdefgh");
            Check.type(x, "slip");
            x.go(2, false);
            x.go(5, true);
            Check.same("erase of a selection", x.erase(n), 3);
            Check.same("seen then", Check.seen(x), "abfgh 2 3 2 -1 4 -1 0 1");
            x.go(0, true);
            Check.same("erase of one behind the cursor", x.erase(n), 2);
            Check.same("seen then", Check.seen(x), "fgh 3 4 0 -1 4 -1 0 1 2");
        }
    }

    private static void eraseLimits() {
        DraftTree x = Check.withText("abc");
        Check.fillStates(x);
        Check.same("erase of nothing with 40 states", x.erase(1), 0);
        Check.same("erase 0 with 40 states", x.erase(0), 0);
        Check.refused(x, "erase with 40 states", Check.STATE, () -> x.erase(-1));
        x.go(1, true);
        Check.refused(x, "erase of a selection with 40 states", Check.STATE, () -> x.erase(0));
    }
}
