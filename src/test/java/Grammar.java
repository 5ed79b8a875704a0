import java.util.BitSet;
import java.util.HashMap;
import java.util.Map;

/**
 * The document's grammar of patterns, word for word: every rule asks of a span whether it is one, and
 * what it fits is computed as sets of places. Slow, and written unlike the program, to be its judge.
 */
final class Grammar {
    /** What a pattern, or a piece of one, fits: from a place to which places. */
    interface Fit {
        BitSet ends(String text, int from);
    }

    private static final String SPECIAL = "()[]|*+?.^$\\";

    private final String source;
    private final Map<Integer, Fit> known = new HashMap<>();

    private Grammar(String source) {
        this.source = source;
    }

    /** Null if it is no pattern. */
    static Fit pattern(String source) {
        return new Grammar(source).choice(0, source.length(), 0);
    }

    /** The length of the longest beginning that is also a beginning of some pattern. */
    static int longestBeginning(String source) {
        for (int size = source.length(); size > 0; size--) {
            if (isBeginning(source.substring(0, size))) {
                return size;
            }
        }
        return 0;
    }

    private static boolean isBeginning(String source) {
        int groups = (int) source.chars().filter(c -> c == '(').count();
        for (String middle : new String[] {"", "a", "]", "a]"}) {
            for (int closed = 0; closed <= groups; closed++) {
                if (pattern(source + middle + ")".repeat(closed)) != null) {
                    return true;
                }
            }
        }
        return false;
    }

    private Fit choice(int from, int to, int depth) {
        int key = key(0, from, to, depth);
        if (!known.containsKey(key)) {
            known.put(key, readChoice(from, to, depth));
        }
        return known.get(key);
    }

    private Fit readChoice(int from, int to, int depth) {
        Fit whole = row(from, to, depth);
        if (whole != null) {
            return whole;
        }
        for (int k = from; k < to; k++) {
            if (source.charAt(k) == '|') {
                Fit left = row(from, k, depth);
                Fit right = left == null ? null : choice(k + 1, to, depth);
                if (right != null) {
                    return (text, i) -> union(left.ends(text, i), right.ends(text, i));
                }
            }
        }
        return null;
    }

    private Fit row(int from, int to, int depth) {
        int key = key(1, from, to, depth);
        if (!known.containsKey(key)) {
            known.put(key, readRow(from, to, depth));
        }
        return known.get(key);
    }

    private Fit readRow(int from, int to, int depth) {
        if (from == to) {
            return (text, i) -> only(i);
        }
        // The longest part first, for a sign behind a part belongs to it.
        for (int k = to; k > from; k--) {
            Fit head = part(from, k, depth);
            Fit rest = head == null ? null : row(k, to, depth);
            if (rest != null) {
                return (text, i) -> after(head.ends(text, i), rest, text);
            }
        }
        return null;
    }

    private Fit part(int from, int to, int depth) {
        Fit plain = one(from, to, depth);
        if (plain != null || to - from < 2) {
            return plain;
        }
        char sign = source.charAt(to - 1);
        Fit inner = "*+?".indexOf(sign) < 0 ? null : part(from, to - 1, depth);
        if (inner == null) {
            return null;
        }
        switch (sign) {
            case '?':
                return (text, i) -> union(only(i), inner.ends(text, i));
            case '*':
                return (text, i) -> repeated(only(i), inner, text);
            default:
                return (text, i) -> repeated(inner.ends(text, i), inner, text);
        }
    }

    private Fit one(int from, int to, int depth) {
        if (from == to) {
            return null;
        }
        char c = source.charAt(from);
        int size = to - from;
        char last = source.charAt(to - 1);
        if (c == '(') {
            return size >= 2 && last == ')' && depth < 8 ? choice(from + 1, to - 1, depth + 1) : null;
        }
        if (c == '[') {
            return size >= 3 && last == ']' ? set(source.substring(from + 1, to - 1)) : null;
        }
        if (c == '\\') {
            return size == 2 ? character(last) : null;
        }
        return size == 1 ? single(c) : null;
    }

    private static Fit single(char c) {
        switch (c) {
            case '.':
                return (text, i) -> i < text.length() && text.charAt(i) != '\n' ? only(i + 1) : new BitSet();
            case '^':
                return (text, i) -> i == 0 || text.charAt(i - 1) == '\n' ? only(i) : new BitSet();
            case '$':
                return (text, i) -> i == text.length() || text.charAt(i) == '\n' ? only(i) : new BitSet();
            default:
                return SPECIAL.indexOf(c) < 0 ? character(c) : null;
        }
    }

    private static Fit character(char c) {
        return (text, i) -> i < text.length() && text.charAt(i) == c ? only(i + 1) : new BitSet();
    }

    private static Fit set(String inside) {
        boolean others = inside.startsWith("^");
        String ranges = others ? inside.substring(1) : inside;
        if (ranges.isEmpty() || ranges.indexOf(']') >= 0) {
            return null;
        }
        BitSet codes = new BitSet();
        String left = ranges;
        while (!left.isEmpty()) {
            boolean two = left.length() > 2 && left.charAt(1) == '-' && left.charAt(0) <= left.charAt(2);
            codes.set(left.charAt(0), (two ? left.charAt(2) : left.charAt(0)) + 1);
            left = left.substring(two ? 3 : 1);
        }
        return (text, i) -> i < text.length() && codes.get(text.charAt(i)) != others ? only(i + 1) : new BitSet();
    }

    private static BitSet only(int place) {
        BitSet places = new BitSet();
        places.set(place);
        return places;
    }

    private static BitSet union(BitSet a, BitSet b) {
        BitSet both = (BitSet) a.clone();
        both.or(b);
        return both;
    }

    private static BitSet after(BitSet places, Fit fit, String text) {
        BitSet reached = new BitSet();
        places.stream().forEach(i -> reached.or(fit.ends(text, i)));
        return reached;
    }

    private static BitSet repeated(BitSet places, Fit fit, String text) {
        BitSet reached = (BitSet) places.clone();
        BitSet fresh = places;
        while (!fresh.isEmpty()) {
            BitSet more = after(fresh, fit, text);
            more.andNot(reached);
            reached.or(more);
            fresh = more;
        }
        return reached;
    }

    private static int key(int rule, int from, int to, int depth) {
        return ((rule * 64 + from) * 64 + to) * 16 + depth;
    }
}
