import java.util.ArrayList;
import java.util.List;

/** What the tests share: comparing answers, filling a DraftTree, and seeing all of it. */
final class Check {
    static final Class<?> STATE = IllegalStateException.class;
    static final Class<?> ARGUMENT = IllegalArgumentException.class;
    static final Class<?> BOUNDS = IndexOutOfBoundsException.class;
    static final Class<?> MISSING = java.util.NoSuchElementException.class;

    private static final List<String> WRONG = new ArrayList<>();

    private Check() {
    }

    static void same(String what, Object got, Object due) {
        if (!got.equals(due)) {
            WRONG.add(what + " answered " + got + ", due is " + due);
        }
    }

    /** The call must throw just this exception, and leave all but fault() as it was. */
    static void refused(DraftTree x, String what, Class<?> due, Runnable call) {
        String before = seen(x);
        Object thrown = "nothing";
        try {
            call.run();
        } catch (RuntimeException e) {
            thrown = e.getClass();
        }
        same(what + " throws", thrown, due);
        same(what + " leaves behind", seen(x), before);
    }

    static void type(DraftTree x, String characters) {
        for (int i = 0; i < characters.length(); i++) {
            same("type of " + (int) characters.charAt(i), x.type(characters.charAt(i)), true);
        }
    }

    static DraftTree withText(String text) {
        DraftTree x = new DraftTree();
        for (int from = 0; from < text.length(); from += 24) {
            type(x, text.substring(from, Math.min(text.length(), from + 24)));
            x.insert();
        }
        return x;
    }

    static void compile(DraftTree x, String pattern) {
        type(x, pattern);
        x.compile();
    }

    static String text(DraftTree x) {
        StringBuilder text = new StringBuilder();
        for (int p = 0; p < x.length(); p++) {
            text.append(x.at(p));
        }
        return text.toString();
    }

    /** Everything that can be asked without a change, but for fault(). */
    static String seen(DraftTree x) {
        StringBuilder all = new StringBuilder(text(x));
        for (int k = 0; k < 5; k++) {
            all.append(' ').append(x.figure(k));
        }
        for (int state = 0; state < x.figure(1); state++) {
            all.append(' ').append(x.parent(state));
        }
        return all.toString();
    }

    static int cursor(DraftTree x) {
        return x.figure(2);
    }

    static int mark(DraftTree x) {
        return x.figure(3);
    }

    static String times(String unit, int count) {
        return unit.repeat(count);
    }

    /** Makes states, by inserting one character each, until there are 40. */
    static void fillStates(DraftTree x) {
        for (int turn = 0; turn < 40 && x.figure(1) < 40; turn++) {
            type(x, "s");
            x.insert();
        }
        same("number of states", x.figure(1), 40);
    }

    static void end() {
        for (String line : WRONG) {
            System.out.println(line);
        }
        if (!WRONG.isEmpty()) {
            System.exit(1);
        }
    }
}
