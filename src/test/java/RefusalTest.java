/**
 * Terms: a call that throws changes nothing. Every call that may throw, for each of its reasons, on an
 * object in which there is something of everything that could be changed.
 */
final class RefusalTest {
    public static void main(String[] args) {
        withRoomLeft(rich());
        withRoomLeft(rich().keep(2));
        withRoomLeft(rich().keep(2).type("x".repeat(20)));
        withoutPattern();
        atTheEndsOfTheTree();
        withFullText();
        withFortyStates();
        goingOnAfterwards();
        Check.end();
    }

    /** Four states with places of their own in two branches, a pattern, a fault, and a slip that is no pattern. */
    private static Run rich() {
        return new Run().text("one\ntwo one").go(5).text("x").go(1).undo().go(7).erase(-4).go(3).pattern("o|e")
            .type("a)").compile();
    }

    private static void withRoomLeft(Run run) {
        run.compile().refusedButForFault(Check.ARGUMENT);
        run.go(-1).refused(Check.BOUNDS);
        run.go(8).refused(Check.BOUNDS);
        run.keep(-1).refused(Check.BOUNDS);
        run.keep(8).refused(Check.BOUNDS);
        run.find(-1).refused(Check.BOUNDS);
        run.find(8).refused(Check.BOUNDS);
        run.find(7).refused(Check.MISSING);
        run.redo().refused(Check.MISSING);
        run.jump(-1).refused(Check.ARGUMENT);
        run.jump(4).refused(Check.ARGUMENT);
        run.at(-1).refused(Check.BOUNDS);
        run.at(7).refused(Check.BOUNDS);
        run.line(-1, 0).refused(Check.ARGUMENT);
        run.line(4, 0).refused(Check.ARGUMENT);
        run.line(1, 8).refused(Check.BOUNDS);
        run.line(2, 1).refused(Check.BOUNDS);
        run.line(3, -1).refused(Check.BOUNDS);
        run.figure(-1).refused(Check.ARGUMENT);
        run.figure(5).refused(Check.ARGUMENT);
        run.parent(-1).refused(Check.ARGUMENT);
        run.parent(4).refused(Check.ARGUMENT);
    }

    private static void withoutPattern() {
        Run run = new Run().text("abcab").go(2).text("x").undo().keep(4).type("a(").compile();
        run.find(0).refused(Check.STATE);
        run.find(9).refused(Check.STATE);
        run.replace().refused(Check.STATE);
        run.compile().refusedButForFault(Check.ARGUMENT);
    }

    private static void atTheEndsOfTheTree() {
        rich().jump(0).undo().refused(Check.MISSING);
        rich().jump(2).keep(4).redo().refused(Check.MISSING);
        rich().jump(1).undo().undo().refused(Check.MISSING);
    }

    private static void withFullText() {
        Run run = new Run().text("one\n".repeat(40)).go(9).undo().go(4).redo().pattern("^o").type("a)").compile();
        run.insert().refused(Check.STATE);
        run.keep(10).insert().refused(Check.STATE);
        run.replace().refused(Check.STATE);
        run.keep(2).replace().refused(Check.STATE);
        run.go(161).refused(Check.BOUNDS);
        run.find(161).refused(Check.BOUNDS);
        run.find(157).refused(Check.MISSING);
    }

    private static void withFortyStates() {
        Run run = rich().wipe().states(40).go(2).undo().keep(4).type("a)");
        run.insert().refused(Check.STATE);
        run.go(1).insert().refused(Check.STATE);
        run.erase(0).refused(Check.STATE);
        run.go(1).erase(1).refused(Check.STATE);
        run.go(1).erase(-1).refused(Check.STATE);
        run.replace().refused(Check.STATE);
        run.jump(40).refused(Check.ARGUMENT);
        run.parent(40).refused(Check.ARGUMENT);
        run.jump(39).redo().refused(Check.MISSING);
        run.jump(0).undo().refused(Check.MISSING);
    }

    /** After a refusal the same call works as soon as its reason is gone. */
    private static void goingOnAfterwards() {
        new Run().text("a".repeat(160)).type("bc").insert().erase(-2).insert().answers(9).length().answers(160);
        new Run().text("a".repeat(160)).pattern("^a").type("bc").replace().go(9).erase(1).replace().answers(1).figure(4).answers(0);
        new Run().text("abc").type("b").find(0).compile().find(0).answers(1);
        new Run().text("abc").go(4).text("d").go(4).answers("done");
        new Run().jump(1).text("a").undo().jump(1).answers("done").figure(0).answers(1);
        new Run().undo().text("a").undo().answers(0);
        new Run().redo().text("a").undo().redo().answers(1);
        new Run().text("abc").pattern("d").find(0).text("d").find(0).answers(3);
        new Run().parent(1).text("a").parent(1).answers(0);
        new Run().at(0).text("a").at(0).answers('a');
    }
}
