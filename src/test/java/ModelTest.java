import java.util.function.Supplier;

/** All promises: long mixed runs, every answer and all that can be seen compared with the model's. */
final class ModelTest {
    private static final int RUNS = 400;
    private static final int CALLS = 512;
    private static final String TEXTS = "aaabbbc\n-] x";
    private static final String PATTERNS = "aaabbc.^$|*+?()()[]-\\\n";
    private static final int[] EXTREMES = {Integer.MIN_VALUE, Integer.MAX_VALUE, -2, 161};
    private static final String[] GOOD = {
        "a+b", "(a|b)*c", "^a|b$", "[^a\n]", "[a-c]+", "(^|a)b?", ".*$", "a*?b", "((a?)*b)+", "\n^", "(a|ab)(c|bcd)?", "."
    };

    /** Whether every typed row is inserted at once, so that the limits of text and states are met. */
    private final boolean hasty;
    private long seed;

    private ModelTest(int run) {
        hasty = run % 2 == 0;
        seed = run * 7919L + 17;
    }

    public static void main(String[] args) {
        for (int run = 1; run <= RUNS; run++) {
            new ModelTest(run).compare(run);
        }
        Check.end();
    }

    private void compare(int run) {
        DraftTree x = new DraftTree();
        Model due = new Model();
        int calls = 0;
        while (calls < CALLS) {
            calls += step(x, due, "run " + run + ", call " + calls + ": ");
        }
    }

    private int step(DraftTree x, Model due, String name) {
        int kind = below(22);
        if (kind < 4) {
            int calls = typeRow(x, due, name, row(TEXTS, below(hasty ? 16 : 9)));
            if (hasty) {
                both(x, due, name + "insert", x::insert, due::insert);
            }
            return calls + 1;
        }
        if (kind < 7) {
            String pattern = below(2) == 0 ? GOOD[below(GOOD.length)] : row(PATTERNS, below(12));
            int calls = typeRow(x, due, name, pattern);
            both(x, due, name + "compile", () -> done(x::compile), () -> done(due::compile));
            return calls + 1;
        }
        oneCall(x, due, name, kind);
        return 1;
    }

    private void oneCall(DraftTree x, Model due, String name, int kind) {
        int place = number(x.length() + 1);
        int state = number(x.figure(1));
        boolean keep = below(2) == 0;
        int few = number(7) - 3;
        switch (kind) {
            case 7, 8 -> both(x, due, name + "insert", x::insert, due::insert);
            case 9 -> both(x, due, name + "erase " + few, () -> x.erase(few), () -> due.erase(few));
            case 10, 11, 12 -> both(x, due, name + "go " + place + keep,
                () -> done(() -> x.go(place, keep)), () -> done(() -> due.go(place, keep)));
            case 13, 14, 15 -> both(x, due, name + "find " + place, () -> x.find(place), () -> due.find(place));
            case 16 -> both(x, due, name + "replace", x::replace, due::replace);
            case 17 -> both(x, due, name + "undo", x::undo, due::undo);
            case 18 -> both(x, due, name + "redo", x::redo, due::redo);
            case 19 -> both(x, due, name + "jump " + state,
                () -> done(() -> x.jump(state)), () -> done(() -> due.jump(state)));
            case 20 -> both(x, due, name + "wipe", x::wipe, due::wipe);
            default -> ask(x, due, name, place, state);
        }
    }

    private void ask(DraftTree x, Model due, String name, int place, int state) {
        int what = number(4);
        int line = number(4);
        int k = number(5);
        both(x, due, name + "at " + place, () -> x.at(place), () -> due.at(place));
        both(x, due, name + "line " + what, () -> x.line(what, line), () -> due.line(what, line));
        both(x, due, name + "line 1 " + place, () -> x.line(1, place), () -> due.line(1, place));
        both(x, due, name + "figure " + k, () -> x.figure(k), () -> due.figure(k));
        both(x, due, name + "parent " + state, () -> x.parent(state), () -> due.parent(state));
    }

    private int typeRow(DraftTree x, Model due, String name, String row) {
        for (int i = 0; i < row.length(); i++) {
            char c = row.charAt(i);
            both(x, due, name + "type " + (int) c, () -> x.type(c), () -> due.type(c));
        }
        return row.length();
    }

    private static void both(DraftTree x, Model due, String name, Supplier<Object> got, Supplier<Object> wanted) {
        Check.same(name, answer(got), answer(wanted));
        Check.same(name + ", seen", Check.seen(x), due.seen());
        Check.same(name + ", fault", x.fault(), due.fault());
    }

    private static Object answer(Supplier<Object> call) {
        try {
            return call.get();
        } catch (RuntimeException e) {
            return e.getClass();
        }
    }

    private static Object done(Runnable call) {
        call.run();
        return "done";
    }

    /** Mostly from 0 on and below the limit, now and then just beyond it or far away. */
    private int number(int limit) {
        int kind = below(20);
        if (kind == 0) {
            return EXTREMES[below(EXTREMES.length)];
        }
        return kind == 1 ? limit : kind == 2 ? -1 : below(limit);
    }

    private String row(String characters, int size) {
        StringBuilder made = new StringBuilder();
        for (int i = 0; i < size; i++) {
            made.append(characters.charAt(below(characters.length())));
        }
        return made.toString();
    }

    private int below(int limit) {
        seed = seed * 6364136223846793005L + 1442695040888963407L;
        return (int) ((seed >>> 33) % limit);
    }
}
