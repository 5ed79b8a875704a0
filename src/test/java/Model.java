import java.util.ArrayList;
import java.util.List;
import java.util.NoSuchElementException;

/** The document once more, as plainly as can be, with Java's library; the program is compared with it. */
final class Model {
    private static final class State {
        String text;
        int place;
        int parent;
        int cameAt;
    }

    private final List<State> states = new ArrayList<>();
    private String slip = "";
    private int present;
    private int cursor;
    private int mark = -1;
    private int clock;
    private int fault = -1;
    private Grammar.Fit pattern;

    Model() {
        State first = new State();
        first.text = "";
        first.parent = -1;
        states.add(first);
    }

    boolean type(char c) {
        if ((c != 10 && (c < 32 || c > 126)) || slip.length() >= 24) {
            return false;
        }
        slip += c;
        return true;
    }

    int wipe() {
        int had = slip.length();
        slip = "";
        return had;
    }

    int insert() {
        String made = text().substring(0, low()) + slip + text().substring(high());
        if (made.length() > 160 || states.size() == 40) {
            throw new IllegalStateException();
        }
        if (low() != high() || !slip.isEmpty()) {
            edit(made, low() + slip.length());
            slip = "";
        }
        return present;
    }

    int erase(int n) {
        long from = low();
        long to = high();
        if (from == to) {
            from = Math.max(0, Math.min(cursor, cursor + (long) n));
            to = Math.min(text().length(), Math.max(cursor, cursor + (long) n));
        }
        if (from < to) {
            if (states.size() == 40) {
                throw new IllegalStateException();
            }
            edit(text().substring(0, (int) from) + text().substring((int) to), (int) from);
        }
        return (int) (to - from);
    }

    void go(int place, boolean keep) {
        needPlace(place);
        int kept = mark >= 0 ? mark : cursor;
        mark = keep && kept != place ? kept : -1;
        cursor = place;
    }

    void compile() {
        Grammar.Fit read = Grammar.pattern(slip);
        if (read == null) {
            fault = Grammar.longestBeginning(slip);
            throw new IllegalArgumentException();
        }
        fault = -1;
        pattern = read;
        slip = "";
    }

    int fault() {
        return fault;
    }

    int find(int place) {
        if (pattern == null) {
            throw new IllegalStateException();
        }
        needPlace(place);
        int[] match = firstMatch(place);
        if (match == null) {
            throw new NoSuchElementException();
        }
        mark = match[0];
        cursor = match[1];
        return mark;
    }

    int replace() {
        if (pattern == null) {
            throw new IllegalStateException();
        }
        String made = "";
        int count = 0;
        int done = 0;
        for (int[] match = firstMatch(0); match != null; match = firstMatch(done)) {
            made += text().substring(done, match[0]) + slip;
            done = match[1];
            count++;
        }
        int place = made.length();
        made += text().substring(done);
        if (made.length() > 160 || (count > 0 && states.size() == 40)) {
            throw new IllegalStateException();
        }
        if (count > 0) {
            edit(made, place);
        }
        slip = "";
        return count;
    }

    int undo() {
        if (present == 0) {
            throw new NoSuchElementException();
        }
        come(states.get(present).parent);
        return present;
    }

    int redo() {
        int last = -1;
        for (int s = 0; s < states.size(); s++) {
            if (states.get(s).parent == present && (last < 0 || states.get(s).cameAt > states.get(last).cameAt)) {
                last = s;
            }
        }
        if (last < 0) {
            throw new NoSuchElementException();
        }
        come(last);
        return present;
    }

    void jump(int state) {
        needState(state);
        come(state);
    }

    int length() {
        return text().length();
    }

    char at(int p) {
        if (p < 0 || p >= text().length()) {
            throw new IndexOutOfBoundsException();
        }
        return text().charAt(p);
    }

    int line(int what, int p) {
        if (what < 0 || what > 3) {
            throw new IllegalArgumentException();
        }
        String[] lines = text().split("\n", -1);
        if (what == 0) {
            return lines.length;
        }
        if (what == 1) {
            needPlace(p);
            return text().substring(0, p).split("\n", -1).length - 1;
        }
        if (p < 0 || p >= lines.length) {
            throw new IndexOutOfBoundsException();
        }
        int begin = 0;
        for (int k = 0; k < p; k++) {
            begin += lines[k].length() + 1;
        }
        return what == 2 ? begin : lines[p].length();
    }

    int figure(int k) {
        int[] figures = {present, states.size(), cursor, mark, slip.length()};
        if (k < 0 || k >= figures.length) {
            throw new IllegalArgumentException();
        }
        return figures[k];
    }

    int parent(int state) {
        needState(state);
        return states.get(state).parent;
    }

    /** The same as Check.seen tells of a DraftTree. */
    String seen() {
        StringBuilder all = new StringBuilder(text());
        for (int k = 0; k < 5; k++) {
            all.append(' ').append(figure(k));
        }
        for (State state : states) {
            all.append(' ').append(state.parent);
        }
        return all.toString();
    }

    String text() {
        return states.get(present).text;
    }

    private int low() {
        return mark < 0 ? cursor : Math.min(mark, cursor);
    }

    private int high() {
        return Math.max(mark, cursor);
    }

    private void needPlace(int place) {
        if (place < 0 || place > text().length()) {
            throw new IndexOutOfBoundsException();
        }
    }

    private void needState(int state) {
        if (state < 0 || state >= states.size()) {
            throw new IllegalArgumentException();
        }
    }

    private int[] firstMatch(int place) {
        for (int i = place; i <= text().length(); i++) {
            int end = pattern.ends(text(), i).length() - 1;
            if (end > i) {
                return new int[] {i, end};
            }
        }
        return null;
    }

    private void edit(String made, int place) {
        State state = new State();
        state.text = made;
        state.place = place;
        state.parent = present;
        states.add(state);
        come(states.size() - 1);
    }

    private void come(int state) {
        states.get(present).place = cursor;
        present = state;
        cursor = states.get(state).place;
        mark = -1;
        clock++;
        states.get(state).cameAt = clock;
    }
}
