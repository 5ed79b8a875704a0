import java.util.function.Supplier;

/**
 * All promises: mixed runs, every answer compared with the model's. No object is used for more than 512
 * calls, so a run is of any length up to 280, and the rest is used to look at one side of the object.
 */
final class ModelTest {
    private static final int RUNS = 4000;
    private static final int LONGEST = 280;
    private static final String TEXTS = "aaabbbc\n-] x";
    private static final String PATTERNS = "aaabbc.^$|*+?()()[]-\\\n";
    private static final int[] EXTREMES = {Integer.MIN_VALUE, Integer.MAX_VALUE, -2, 161};
    private static final String[] GOOD = {
        "a+b", "(a|b)*c", "^a|b$", "[^a\n]", "[a-c]+", "(^|a)b?", ".*$", "a*?b", "((a?)*b)+", "\n^", "(a|ab)(c|bcd)?", "."
    };

    private final Dice dice;
    private final int run;
    private final DraftTree x = new DraftTree();
    private final Model due = new Model();
    private int calls;

    private ModelTest(int run) {
        this.run = run;
        dice = new Dice(run * 7919L + 17);
    }

    public static void main(String[] args) {
        for (int run = 1; run <= RUNS; run++) {
            new ModelTest(run).compare();
        }
        Check.end();
    }

    private void compare() {
        int size = LONGEST - dice.below(run % 4 == 0 ? LONGEST : 100);
        while (calls < size) {
            step();
        }
        switch (run % 4) {
            case 0 -> lookAtText();
            case 1 -> lookAtStates();
            case 2 -> lookAtWays();
            default -> lookAtMatches();
        }
    }

    private void step() {
        int kind = dice.below(22);
        // Some runs make states quickly, and some long texts, so that the limits of both are met.
        if (kind < 4) {
            typeRow(dice.row(TEXTS, run % 3 == 0 ? 24 : run % 3 == 1 ? 1 : dice.below(9)));
            if (run % 3 != 2) {
                both("insert", x::insert, due::insert);
            }
        } else if (kind < 7) {
            typeRow(dice.below(2) == 0 ? GOOD[dice.below(GOOD.length)] : dice.row(PATTERNS, dice.below(12)));
            both("compile", () -> done(x::compile), () -> done(due::compile));
        } else {
            oneCall(kind);
        }
    }

    private void oneCall(int kind) {
        int place = number(due.length() + 1);
        int state = number(due.figure(1));
        boolean keep = dice.below(2) == 0;
        int few = number(7) - 3;
        switch (kind) {
            case 7, 8 -> both("insert", x::insert, due::insert);
            case 9 -> both("erase " + few, () -> x.erase(few), () -> due.erase(few));
            case 10, 11, 12 -> both("go " + place + keep,
                () -> done(() -> x.go(place, keep)), () -> done(() -> due.go(place, keep)));
            case 13, 14, 15 -> both("find " + place, () -> x.find(place), () -> due.find(place));
            case 16 -> both("replace", x::replace, due::replace);
            case 17 -> both("undo", x::undo, due::undo);
            case 18 -> both("redo", x::redo, due::redo);
            case 19 -> jump(state);
            case 20 -> both("wipe", x::wipe, due::wipe);
            default -> ask(place, state);
        }
    }

    private void ask(int place, int state) {
        int what = number(4);
        int line = number(4);
        both("at " + place, () -> x.at(place), () -> due.at(place));
        both("line " + what + " " + line, () -> x.line(what, line), () -> due.line(what, line));
        both("line 1 " + place, () -> x.line(1, place), () -> due.line(1, place));
        both("parent " + state, () -> x.parent(state), () -> due.parent(state));
        figure(number(5));
    }

    private void lookAtText() {
        int length = due.length();
        both("length", x::length, due::length);
        for (int k = 0; k < length; k++) {
            int p = k;
            both("at " + p, () -> x.at(p), () -> due.at(p));
        }
        for (int k = 0; k < 5; k++) {
            figure(k);
        }
    }

    private void lookAtStates() {
        int count = due.figure(1);
        for (int k = 0; k < count; k++) {
            int state = k;
            both("parent " + state, () -> x.parent(state), () -> due.parent(state));
            jump(state);
            both("length", x::length, due::length);
            figure(2);
            both("at 0", () -> x.at(0), () -> due.at(0));
        }
    }

    private void lookAtWays() {
        int count = due.figure(1);
        for (int state = 0; state < count; state++) {
            jump(state);
            both("redo", x::redo, due::redo);
            figure(2);
        }
    }

    private void lookAtMatches() {
        int length = Math.min(100, due.length());
        for (int k = 0; k < length; k++) {
            int place = k;
            both("find " + place, () -> x.find(place), () -> due.find(place));
            figure(2);
        }
    }

    private void jump(int state) {
        both("jump " + state, () -> done(() -> x.jump(state)), () -> done(() -> due.jump(state)));
    }

    private void figure(int k) {
        both("figure " + k, () -> x.figure(k), () -> due.figure(k));
    }

    private void typeRow(String row) {
        for (int i = 0; i < row.length(); i++) {
            char c = row.charAt(i);
            both("type " + (int) c, () -> x.type(c), () -> due.type(c));
        }
    }

    private void both(String name, Supplier<Object> got, Supplier<Object> wanted) {
        calls++;
        Check.same("run " + run + ", call " + calls + ": " + name, answer(got), answer(wanted));
        if (name.equals("compile")) {
            calls++;
            Check.same("run " + run + ", call " + calls + ": fault", x.fault(), due.fault());
        }
    }

    private static Object answer(Supplier<Object> call) {
        try {
            return call.get();
        } catch (RuntimeException e) {
            return e.getClass();
        }
    }

    private static Object done(Runnable call) {
        call.run();
        return "done";
    }

    /** Mostly from 0 on and below the limit, now and then just beyond it or far away. */
    private int number(int limit) {
        int kind = dice.below(20);
        if (kind == 0) {
            return EXTREMES[dice.below(EXTREMES.length)];
        }
        return kind == 1 ? limit : kind == 2 ? -1 : dice.below(limit);
    }
}
