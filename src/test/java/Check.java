import java.util.ArrayList;
import java.util.List;

/** What all tests share: comparing answers, and ending with exit code 1 if one was wrong. */
final class Check {
    static final Class<?> STATE = IllegalStateException.class;
    static final Class<?> ARGUMENT = IllegalArgumentException.class;
    static final Class<?> BOUNDS = IndexOutOfBoundsException.class;
    static final Class<?> MISSING = java.util.NoSuchElementException.class;

    private static final List<String> WRONG = new ArrayList<>();

    private Check() {
    }

    static void same(String what, Object got, Object due) {
        if (!got.equals(due)) {
            WRONG.add(what + " answered " + got + ", due is " + due);
        }
    }

    static void end() {
        for (String line : WRONG) {
            System.out.println(line);
        }
        if (!WRONG.isEmpty()) {
            System.exit(1);
        }
    }
}
