import java.util.NoSuchElementException;

/** The core of an editor: a text changed at a cursor, a tree of its former states, and patterns. */
public final class DraftTree {
    private static final int SLIP_LIMIT = 24;
    private static final int TEXT_LIMIT = 160;
    private static final int STATE_LIMIT = 40;
    private static final int GROUP_LIMIT = 8;
    private static final int NONE = -1;
    private static final char BREAK = '\n';

    private final char[] slip;
    private int slipSize;

    private final State[] states;
    private int stateCount;
    private int present;
    private char[] text;
    private int cursor;
    private int mark;

    private final PatternReader reader;
    private Automaton pattern;
    private boolean hasPattern;
    private int latestFault;

    private final int[] matchStarts;
    private final int[] matchEnds;

    public DraftTree() {
        slip = new char[SLIP_LIMIT];
        states = new State[STATE_LIMIT];
        text = new char[0];
        states[0] = new State(text, 0, NONE);
        stateCount = 1;
        mark = NONE;
        reader = new PatternReader();
        pattern = new Automaton();
        latestFault = NONE;
        matchStarts = new int[TEXT_LIMIT];
        matchEnds = new int[TEXT_LIMIT];
    }

    public boolean type(char c) {
        boolean known = c == BREAK || (c >= ' ' && c <= '~');
        if (!known || slipSize == SLIP_LIMIT) {
            return false;
        }
        slip[slipSize] = c;
        slipSize++;
        return true;
    }

    public int wipe() {
        int had = slipSize;
        slipSize = 0;
        return had;
    }

    public int insert() throws IllegalStateException {
        int from = selectionStart();
        int to = selectionEnd();
        // The document ties the 40 states to an edit for erase and replace, but not here.
        if (stateCount == STATE_LIMIT || text.length - (to - from) + slipSize > TEXT_LIMIT) {
            throw new IllegalStateException();
        }
        if (from < to || slipSize > 0) {
            exchange(from, to, slipSize);
            slipSize = 0;
        }
        return present;
    }

    public int erase(int n) throws IllegalStateException {
        int from = selectionStart();
        int to = selectionEnd();
        if (from == to && n < 0) {
            from = Math.max(0, cursor + n);
        } else if (from == to) {
            to = cursor + Math.min(n, text.length - cursor);
        }
        if (from < to) {
            if (stateCount == STATE_LIMIT) {
                throw new IllegalStateException();
            }
            exchange(from, to, 0);
        }
        return to - from;
    }

    public void go(int place, boolean keep) throws IndexOutOfBoundsException {
        requirePlace(place);
        if (!keep) {
            mark = NONE;
        } else if (mark == NONE) {
            mark = cursor;
        }
        cursor = place;
        if (mark == cursor) {
            mark = NONE;
        }
    }

    public void compile() throws IllegalArgumentException {
        latestFault = reader.read(slip, slipSize);
        if (latestFault != NONE) {
            throw new IllegalArgumentException();
        }
        pattern = reader.handOver(pattern);
        hasPattern = true;
        slipSize = 0;
    }

    public int fault() {
        return latestFault;
    }

    public int find(int place) throws IllegalStateException, IndexOutOfBoundsException, NoSuchElementException {
        if (!hasPattern) {
            throw new IllegalStateException();
        }
        requirePlace(place);
        if (!pattern.seek(text, place)) {
            throw new NoSuchElementException();
        }
        mark = pattern.matchStart;
        cursor = pattern.matchEnd;
        return mark;
    }

    public int replace() throws IllegalStateException {
        if (!hasPattern) {
            throw new IllegalStateException();
        }
        int matches = collectMatches();
        if (matches > 0) {
            int size = sizeWithSlipIn(matches);
            if (size > TEXT_LIMIT || stateCount == STATE_LIMIT) {
                throw new IllegalStateException();
            }
            putSlipIntoMatches(matches, size);
        }
        slipSize = 0;
        return matches;
    }

    public int undo() throws NoSuchElementException {
        int origin = states[present].origin;
        if (origin == NONE) {
            throw new NoSuchElementException();
        }
        moveTo(origin);
        return present;
    }

    public int redo() throws NoSuchElementException {
        int child = states[present].latestChild;
        if (child == NONE) {
            throw new NoSuchElementException();
        }
        moveTo(child);
        return present;
    }

    public void jump(int state) throws IllegalArgumentException {
        requireState(state);
        moveTo(state);
    }

    public int length() {
        return text.length;
    }

    public char at(int p) throws IndexOutOfBoundsException {
        if (p < 0 || p >= text.length) {
            throw new IndexOutOfBoundsException();
        }
        return text[p];
    }

    public int line(int what, int p) throws IllegalArgumentException, IndexOutOfBoundsException {
        switch (what) {
            case 0:
                return breaksBefore(text.length) + 1;
            case 1:
                requirePlace(p);
                return breaksBefore(p);
            case 2:
                return lineBegin(p);
            case 3:
                return lineSize(lineBegin(p));
            default:
                throw new IllegalArgumentException();
        }
    }

    public int figure(int k) throws IllegalArgumentException {
        switch (k) {
            case 0:
                return present;
            case 1:
                return stateCount;
            case 2:
                return cursor;
            case 3:
                return mark;
            case 4:
                return slipSize;
            default:
                throw new IllegalArgumentException();
        }
    }

    public int parent(int state) throws IllegalArgumentException {
        requireState(state);
        return states[state].origin;
    }

    private void requirePlace(int place) throws IndexOutOfBoundsException {
        if (place < 0 || place > text.length) {
            throw new IndexOutOfBoundsException();
        }
    }

    private void requireState(int state) throws IllegalArgumentException {
        if (state < 0 || state >= stateCount) {
            throw new IllegalArgumentException();
        }
    }

    private int selectionStart() {
        return mark == NONE ? cursor : Math.min(mark, cursor);
    }

    private int selectionEnd() {
        return mark == NONE ? cursor : Math.max(mark, cursor);
    }

    private void moveTo(int state) {
        states[present].place = cursor;
        State target = states[state];
        present = state;
        text = target.text;
        cursor = target.place;
        mark = NONE;
        if (target.origin != NONE) {
            states[target.origin].latestChild = state;
        }
    }

    private void makeState(char[] newText, int place) {
        int number = stateCount;
        states[number] = new State(newText, place, present);
        stateCount++;
        moveTo(number);
    }

    /** An edit that puts so many characters of the slip in the place of what lies between two places. */
    private void exchange(int from, int to, int used) {
        char[] made = new char[text.length - (to - from) + used];
        System.arraycopy(text, 0, made, 0, from);
        System.arraycopy(slip, 0, made, from, used);
        System.arraycopy(text, to, made, from + used, text.length - to);
        makeState(made, from + used);
    }

    private int collectMatches() {
        int place = 0;
        for (int matches = 0; matches < TEXT_LIMIT; matches++) {
            if (!pattern.seek(text, place)) {
                return matches;
            }
            matchStarts[matches] = pattern.matchStart;
            matchEnds[matches] = pattern.matchEnd;
            place = pattern.matchEnd;
        }
        return TEXT_LIMIT;
    }

    private int sizeWithSlipIn(int matches) {
        int size = text.length + matches * slipSize;
        for (int m = 0; m < matches; m++) {
            size -= matchEnds[m] - matchStarts[m];
        }
        return size;
    }

    private void putSlipIntoMatches(int matches, int size) {
        char[] made = new char[size];
        int taken = 0;
        int put = 0;
        for (int m = 0; m < matches; m++) {
            int kept = matchStarts[m] - taken;
            System.arraycopy(text, taken, made, put, kept);
            System.arraycopy(slip, 0, made, put + kept, slipSize);
            put += kept + slipSize;
            taken = matchEnds[m];
        }
        System.arraycopy(text, taken, made, put, text.length - taken);
        makeState(made, put);
    }

    private int breaksBefore(int place) {
        int breaks = 0;
        for (int i = 0; i < place; i++) {
            if (text[i] == BREAK) {
                breaks++;
            }
        }
        return breaks;
    }

    private int lineBegin(int number) throws IndexOutOfBoundsException {
        if (number == 0) {
            return 0;
        }
        int breaks = 0;
        for (int i = 0; i < text.length; i++) {
            if (text[i] == BREAK) {
                breaks++;
                if (breaks == number) {
                    return i + 1;
                }
            }
        }
        throw new IndexOutOfBoundsException();
    }

    private int lineSize(int begin) {
        int size = 0;
        for (int i = begin; i < text.length && text[i] != BREAK; i++) {
            size++;
        }
        return size;
    }

    /** One state of the tree; its text is never changed, so it may be shared with the editor. */
    private static final class State {
        final char[] text;
        final int origin;
        int place;
        /** Of the states made from this one, that to which one came last. */
        int latestChild;

        State(char[] text, int place, int origin) {
            this.text = text;
            this.place = place;
            this.origin = origin;
            this.latestChild = NONE;
        }
    }

    /**
     * A pattern as nodes with ways between them. All ways are walked at once, so the longest fit is
     * found without going back; a set of nodes is a long, which is why there may be 64 at most.
     */
    private static final class Automaton {
        /** Two for the whole pattern, and no character of it makes more than two. */
        static final int NODE_LIMIT = 2 + 2 * SLIP_LIMIT;
        static final int FORK = 0;
        static final int CONSUME = 1;
        static final int LINE_START = 2;
        static final int LINE_END = 3;

        final int[] kinds;
        final int[] next;
        /** A fork's second way; a fork that has none only joins others. */
        final int[] other;
        /** The codes that a consuming node takes: below 64, and from 64 on. */
        final long[] lowCodes;
        final long[] highCodes;
        int size;
        int start;
        int goal;
        int matchStart;
        int matchEnd;

        Automaton() {
            kinds = new int[NODE_LIMIT];
            next = new int[NODE_LIMIT];
            other = new int[NODE_LIMIT];
            lowCodes = new long[NODE_LIMIT];
            highCodes = new long[NODE_LIMIT];
        }

        int addNode(int kind) {
            int node = size;
            kinds[node] = kind;
            next[node] = NONE;
            other[node] = NONE;
            lowCodes[node] = 0;
            highCodes[node] = 0;
            size++;
            return node;
        }

        void takeCodes(int node, int from, int to) {
            for (int code = from; code <= to; code++) {
                if (code < 64) {
                    lowCodes[node] |= 1L << code;
                } else {
                    highCodes[node] |= 1L << (code - 64);
                }
            }
        }

        void takeOtherCodes(int node) {
            lowCodes[node] = ~lowCodes[node];
            highCodes[node] = ~highCodes[node];
        }

        /** Looks for the first match from a place on, and keeps it in matchStart and matchEnd. */
        boolean seek(char[] text, int place) {
            for (int i = place; i < text.length; i++) {
                int end = longestFit(text, i);
                if (end != NONE) {
                    matchStart = i;
                    matchEnd = end;
                    return true;
                }
            }
            return false;
        }

        /** The greatest place behind this one to which the pattern fits from it, or NONE. */
        private int longestFit(char[] text, int from) {
            int end = NONE;
            long live = spread(1L << start, text, from);
            for (int i = from; i < text.length && live != 0; i++) {
                live = spread(consume(live, text[i]), text, i + 1);
                if ((live & 1L << goal) != 0) {
                    end = i + 1;
                }
            }
            return end;
        }

        private long consume(long live, char c) {
            long reached = 0;
            long left = live;
            for (int turn = 0; turn < size && left != 0; turn++) {
                int node = Long.numberOfTrailingZeros(left);
                left &= left - 1;
                if (kinds[node] == CONSUME && takes(node, c)) {
                    reached |= asSet(next[node]);
                }
            }
            return reached;
        }

        private boolean takes(int node, char c) {
            long codes = c < 64 ? lowCodes[node] : highCodes[node];
            return (codes >>> (c & 63) & 1) != 0;
        }

        /** Adds to a set of nodes all that can be reached from it at this place. */
        private long spread(long nodes, char[] text, int place) {
            boolean starts = place == 0 || text[place - 1] == BREAK;
            boolean ends = place == text.length || text[place] == BREAK;
            long reached = nodes;
            long left = nodes;
            // A node is in left once at most, so there are no more turns than nodes.
            for (int turn = 0; turn < size && left != 0; turn++) {
                int node = Long.numberOfTrailingZeros(left);
                left &= left - 1;
                long fresh = waysOut(node, starts, ends) & ~reached;
                reached |= fresh;
                left |= fresh;
            }
            return reached;
        }

        private long waysOut(int node, boolean starts, boolean ends) {
            switch (kinds[node]) {
                case FORK:
                    return asSet(next[node]) | asSet(other[node]);
                case LINE_START:
                    return starts ? asSet(next[node]) : 0;
                case LINE_END:
                    return ends ? asSet(next[node]) : 0;
                default:
                    return 0;
            }
        }

        private static long asSet(int node) {
            return node == NONE ? 0 : 1L << node;
        }
    }

    /**
     * Reads a row of characters as a pattern, from left to right and without recursion: what is open
     * lies in rows, by depth, the whole pattern being what is open at depth 0.
     */
    private static final class PatternReader {
        final int[] choiceStarts;
        final int[] choiceEnds;
        /** The node at which the latest row of the choice begins. */
        final int[] rowHeads;
        /** The node in the row round the group to which the group will be joined. */
        final int[] outerTails;
        Automaton made;
        char[] source;
        int size;
        int position;
        int depth;
        int fault;
        /** The latest part: the node that leads to it, its first one (NONE: no part yet), its last one. */
        int lead;
        int first;
        int tail;

        PatternReader() {
            choiceStarts = new int[GROUP_LIMIT + 1];
            choiceEnds = new int[GROUP_LIMIT + 1];
            rowHeads = new int[GROUP_LIMIT + 1];
            outerTails = new int[GROUP_LIMIT + 1];
            made = new Automaton();
            source = new char[0];
        }

        /** Gives what was read last away, and takes another one that the next read may overwrite. */
        Automaton handOver(Automaton unused) {
            Automaton done = made;
            made = unused;
            return done;
        }

        /** NONE, or the length of the longest beginning that is also one of some pattern. */
        int read(char[] characters, int count) {
            source = characters;
            size = count;
            position = 0;
            fault = NONE;
            made.size = 0;
            depth = 0;
            openChoice(NONE);
            // What is read has at least one character, so there are no more turns than characters.
            for (int turn = 0; turn < size && position < size && fault == NONE; turn++) {
                readNext();
            }
            if (fault == NONE && depth > 0) {
                fault = size;
            }
            if (fault == NONE) {
                finish();
            }
            return fault;
        }

        private void finish() {
            made.next[tail] = choiceEnds[0];
            made.start = choiceStarts[0];
            made.goal = choiceEnds[0];
        }

        private void readNext() {
            char c = source[position];
            switch (c) {
                case '(':
                    openGroup();
                    break;
                case ')':
                    closeGroup();
                    break;
                case '|':
                    openRow();
                    break;
                case '*':
                case '+':
                case '?':
                    repeatPart(c);
                    break;
                case '[':
                    readSet();
                    break;
                case ']':
                    fault = position;
                    break;
                case '\\':
                    readEscaped();
                    break;
                default:
                    readSingle(c);
            }
            position++;
        }

        private void readSingle(char c) {
            switch (c) {
                case '^':
                    addNodeAsPart(Automaton.LINE_START);
                    break;
                case '$':
                    addNodeAsPart(Automaton.LINE_END);
                    break;
                case '.':
                    readDot();
                    break;
                default:
                    readLiteral(c);
            }
        }

        private void readDot() {
            int node = addNodeAsPart(Automaton.CONSUME);
            made.takeCodes(node, BREAK, BREAK);
            made.takeOtherCodes(node);
        }

        private void readLiteral(char c) {
            int node = addNodeAsPart(Automaton.CONSUME);
            made.takeCodes(node, c, c);
        }

        private void readEscaped() {
            position++;
            if (position == size) {
                fault = position;
                return;
            }
            readLiteral(source[position]);
        }

        private void readSet() {
            boolean others = position + 1 < size && source[position + 1] == '^';
            position += others ? 2 : 1;
            int begin = position;
            int node = addNodeAsPart(Automaton.CONSUME);
            for (int turn = 0; turn < size && position < size && source[position] != ']'; turn++) {
                readRange(node);
            }
            if (position == size || position == begin) {
                fault = position;
                return;
            }
            if (others) {
                made.takeOtherCodes(node);
            }
        }

        private void readRange(int node) {
            char low = source[position];
            boolean isOfTwo = position + 2 < size && source[position + 1] == '-'
                && source[position + 2] != ']' && source[position + 2] >= low;
            if (isOfTwo) {
                made.takeCodes(node, low, source[position + 2]);
                position += 3;
            } else {
                made.takeCodes(node, low, low);
                position++;
            }
        }

        private void openChoice(int outerTail) {
            int head = made.addNode(Automaton.FORK);
            choiceStarts[depth] = head;
            choiceEnds[depth] = made.addNode(Automaton.FORK);
            outerTails[depth] = outerTail;
            beginRow(head);
        }

        private void openGroup() {
            if (depth == GROUP_LIMIT) {
                fault = position;
                return;
            }
            depth++;
            openChoice(tail);
        }

        private void closeGroup() {
            if (depth == 0) {
                fault = position;
                return;
            }
            int start = choiceStarts[depth];
            int end = choiceEnds[depth];
            made.next[tail] = end;
            tail = outerTails[depth];
            depth--;
            addPart(start, end);
        }

        private void openRow() {
            made.next[tail] = choiceEnds[depth];
            int head = made.addNode(Automaton.FORK);
            made.other[rowHeads[depth]] = head;
            beginRow(head);
        }

        private void beginRow(int head) {
            rowHeads[depth] = head;
            lead = NONE;
            first = NONE;
            tail = head;
        }

        private int addNodeAsPart(int kind) {
            int node = made.addNode(kind);
            addPart(node, node);
            return node;
        }

        private void addPart(int start, int end) {
            lead = tail;
            made.next[lead] = start;
            first = start;
            tail = end;
        }

        private void repeatPart(char sign) {
            if (first == NONE) {
                fault = position;
                return;
            }
            int fork = made.addNode(Automaton.FORK);
            made.other[fork] = first;
            int exit = fork;
            if (sign == '?') {
                // The part's end must not come back to the fork, so both ways meet in another node.
                exit = made.addNode(Automaton.FORK);
                made.next[fork] = exit;
            }
            made.next[tail] = exit;
            tail = exit;
            if (sign != '+') {
                made.next[lead] = fork;
                first = fork;
            }
        }
    }
}
