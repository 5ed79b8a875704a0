import java.util.ArrayDeque;
import java.util.Deque;

/**
 * Calls on a new object, one behind the other. A run is never changed, only made longer, and the same
 * object can be made from it again and again; so it can be looked at from all sides although no object
 * is used for more than the 512 calls of which the document speaks.
 */
final class Run {
    interface Call {
        Object on(DraftTree x);
    }

    private final Run before;
    private final String name;
    private final Call call;

    Run() {
        this(null, "new", x -> "new");
    }

    private Run(Run before, String name, Call call) {
        this.before = before;
        this.name = name;
        this.call = call;
    }

    Run then(String what, Call next) {
        return new Run(this, what, next);
    }

    /** One call of type for each character; the answer is that of the last one. */
    Run type(String characters) {
        return characters.isEmpty() ? this : then("type \"" + characters + "\"", x -> typeAll(x, characters));
    }

    Run type(int code) {
        return then("type " + code, x -> x.type((char) code));
    }

    Run wipe() {
        return then("wipe", DraftTree::wipe);
    }

    Run insert() {
        return then("insert", DraftTree::insert);
    }

    Run erase(int n) {
        return then("erase " + n, x -> x.erase(n));
    }

    Run go(int place) {
        return then("go " + place, x -> done(() -> x.go(place, false)));
    }

    Run keep(int place) {
        return then("go " + place + " keeping", x -> done(() -> x.go(place, true)));
    }

    Run compile() {
        return then("compile", x -> done(x::compile));
    }

    Run fault() {
        return then("fault", DraftTree::fault);
    }

    Run find(int place) {
        return then("find " + place, x -> x.find(place));
    }

    Run replace() {
        return then("replace", DraftTree::replace);
    }

    Run undo() {
        return then("undo", DraftTree::undo);
    }

    Run redo() {
        return then("redo", DraftTree::redo);
    }

    Run jump(int state) {
        return then("jump " + state, x -> done(() -> x.jump(state)));
    }

    Run length() {
        return then("length", DraftTree::length);
    }

    Run at(int p) {
        return then("at " + p, x -> x.at(p));
    }

    Run line(int what, int p) {
        return then("line " + what + " " + p, x -> x.line(what, p));
    }

    Run figure(int k) {
        return then("figure " + k, x -> x.figure(k));
    }

    Run parent(int state) {
        return then("parent " + state, x -> x.parent(state));
    }

    /** Types a text and inserts it, 24 characters at a time; each time makes a state. */
    Run text(String characters) {
        Run longer = this;
        for (int from = 0; from < characters.length(); from += 24) {
            longer = longer.type(characters.substring(from, Math.min(characters.length(), from + 24))).insert();
        }
        return longer;
    }

    Run pattern(String characters) {
        return type(characters).compile();
    }

    /** Makes as many states as are wanting: an s more each time, or, in a full text, one less. */
    Run states(int count) {
        Run longer = this;
        for (int made = make().figure(1); made < count; made++) {
            longer = longer.make().length() < 160 ? longer.type("s").insert() : longer.erase(-1);
        }
        return longer;
    }

    DraftTree make() {
        DraftTree x = new DraftTree();
        play(x);
        return x;
    }

    /** What the last call must answer. */
    Run answers(Object due) {
        Check.same(toString(), play(new DraftTree()), due);
        return this;
    }

    /** The text, and what figure answers to 0, 1, .. */
    Run sees(String text, Integer... figures) {
        StringBuilder due = new StringBuilder(text);
        for (int figure : figures) {
            due.append(' ').append(figure);
        }
        Check.same("seen after " + this, look(make()), due.toString());
        return this;
    }

    /** The last call must throw just this, and change nothing at all. */
    Run refused(Class<?> due) {
        Check.same("fault after " + this, make().fault(), before.make().fault());
        return refusedButForFault(due);
    }

    /** The last call must throw just this, and change nothing but what fault tells. */
    Run refusedButForFault(Class<?> due) {
        answers(due);
        Check.same("all after " + this, allSides(), before.allSides());
        return this;
    }

    /** The last call must change nothing, whatever it answers. */
    Run changesNothing() {
        Check.same("fault after " + this, make().fault(), before.make().fault());
        Check.same("all after " + this, allSides(), before.allSides());
        return this;
    }

    @Override
    public String toString() {
        return before == null ? name : before + "; " + name;
    }

    static String text(DraftTree x) {
        StringBuilder text = new StringBuilder();
        int length = x.length();
        for (int p = 0; p < length; p++) {
            text.append(x.at(p));
        }
        return text.toString();
    }

    static Object answer(Call call, DraftTree x) {
        try {
            return call.on(x);
        } catch (RuntimeException e) {
            return e.getClass();
        }
    }

    private Object play(DraftTree x) {
        Deque<Run> steps = new ArrayDeque<>();
        for (Run step = this; step != null; step = step.before) {
            steps.push(step);
        }
        Object last = "nothing";
        for (Run step : steps) {
            last = answer(step.call, x);
        }
        return last;
    }

    /** All that can be found out but for fault, each side of it from an object of its own. */
    private String allSides() {
        return look(make()) + "\nparents" + parents(make()) + "\nslip " + slip(make()) + "\nslip as pattern "
            + slipAsPattern(make()) + "\nmatches" + matches(make()) + "\nstates" + states(make()) + "\nredo" + ways(make());
    }

    private static String look(DraftTree x) {
        StringBuilder seen = new StringBuilder(text(x));
        for (int k = 0; k < 5; k++) {
            seen.append(' ').append(x.figure(k));
        }
        return seen.toString();
    }

    private static String parents(DraftTree x) {
        StringBuilder seen = new StringBuilder();
        int count = x.figure(1);
        for (int state = 0; state < count; state++) {
            seen.append(' ').append(x.parent(state));
        }
        return seen.toString();
    }

    private static String slip(DraftTree x) {
        x.jump(0);
        return answer(DraftTree::insert, x) + " " + text(x);
    }

    private static String slipAsPattern(DraftTree x) {
        Object read = answer(y -> done(y::compile), x);
        return read + " " + x.fault() + matches(x);
    }

    private static String matches(DraftTree x) {
        StringBuilder seen = new StringBuilder();
        int place = 0;
        for (int turn = 0; turn < 40; turn++) {
            int from = place;
            Object start = answer(y -> y.find(from), x);
            seen.append(' ').append(start);
            if (!(start instanceof Integer)) {
                break;
            }
            seen.append(" to ").append(x.figure(2));
            place = (Integer) start + 1;
        }
        return seen.toString();
    }

    private static String states(DraftTree x) {
        StringBuilder seen = new StringBuilder();
        int count = x.figure(1);
        for (int state = 0; state < count; state++) {
            x.jump(state);
            seen.append(' ').append(x.length()).append(" at ").append(x.figure(2));
            seen.append(" of ").append(x.line(0, 0)).append(answer(y -> y.at(0), x));
        }
        return seen.toString();
    }

    /** Coming to a state changes the way to it from its parent alone, and that one was asked before. */
    private static String ways(DraftTree x) {
        StringBuilder seen = new StringBuilder();
        int count = x.figure(1);
        for (int state = 0; state < count; state++) {
            x.jump(state);
            seen.append(' ').append(answer(DraftTree::redo, x));
        }
        return seen.toString();
    }

    private static boolean typeAll(DraftTree x, String characters) {
        boolean last = false;
        for (int i = 0; i < characters.length(); i++) {
            last = x.type(characters.charAt(i));
        }
        return last;
    }

    private static String done(Runnable call) {
        call.run();
        return "done";
    }
}
