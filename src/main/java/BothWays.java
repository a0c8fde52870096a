import java.util.Arrays;

/** Two readers that step both ways over a row between two ends; ../shared/DOC.md tells what each call answers. */
public final class BothWays {
    public static final int NONE = -1, UNKNOWN = -2, OUTSIDE = -3, NOT = -4, FULL = -5, SPENT = -6;

    private static final int READERS = 2, STATES = 5, LETTERS = 3;
    private static final int SIGNS = 5, LEFT_END = 3, RIGHT_END = 4;
    private static final int TEXT_MOST = 160, WRITE_MOST = 8, ROW_MOST = 24;
    private static final int COUNTED_MOST = 10000, TOLD_MOST = 12, TRIED_MOST = 7;
    private static final int KINDS_MOST = 800, BEGINNINGS_MOST = 800, PAIRS_MOST = 4000;
    private static final int STOPS = 0, TAKES = 1, AROUND = 2;

    private final Reader[] readers = new Reader[READERS];
    private final Text text = new Text();
    private final int[] letters = new int[ROW_MOST];
    private int length = 0;
    private final Walk walk = new Walk();
    private final Rows rows = new Rows();
    // The searches are made when first asked for: an object that never asks stays small.
    private final Kinds[] tables = new Kinds[READERS];
    private final Beginnings[] beginnings = new Beginnings[READERS];
    private final Least[] leasts = new Least[READERS];
    private Pairs pairs = null;
    private Sayings sayings = null;

    public BothWays() {
        for (int i = 0; i < READERS; i++) {
            readers[i] = new Reader();
        }
    }

    // ---- readers

    public int reader(int reader, int states, int takes) {
        if (!isReader(reader)) {
            return UNKNOWN;
        }
        if (states < 1 || states > STATES || takes < 0 || takes >> states != 0) {
            return OUTSIDE;
        }
        readers[reader].become(states, takes);
        return 1;
    }

    public int write(long bytes, int n) {
        if (n < 1 || n > WRITE_MOST) {
            return OUTSIDE;
        }
        return text.append(bytes, n) ? text.size : FULL;
    }

    public int erase() {
        int had = text.size;
        text.size = 0;
        return had;
    }

    public int fault(int reader) {
        return isReader(reader) ? text.parse(readers[reader], false) : UNKNOWN;
    }

    public int moves(int reader) {
        if (!isReader(reader)) {
            return UNKNOWN;
        }
        if (text.parse(readers[reader], false) != NONE) {
            return NOT;
        }
        text.parse(readers[reader], true);
        text.size = 0;
        return readers[reader].size;
    }

    public int move(int reader, int state, int sign, int what) {
        if (!isReader(reader) || !readers[reader].hasState(state) || !isSign(sign)) {
            return UNKNOWN;
        }
        if (what < 0 || what > 2) {
            return OUTSIDE;
        }
        int move = readers[reader].moveOf(state, sign);
        if (move == NONE) {
            return NONE;
        }
        switch (what) {
            case 0: return Reader.target(move);
            case 1: return Reader.goesRight(move) ? 1 : 0;
            default: return Reader.saying(move);
        }
    }

    public int drop(int reader, int state, int sign) {
        if (!isReader(reader) || readers[reader].moveOf(state, sign) == NONE) {
            return UNKNOWN;
        }
        readers[reader].put(state, sign, NONE);
        return readers[reader].size;
    }

    // ---- the row

    public int letter(int letter) {
        if (!isLetter(letter)) {
            return UNKNOWN;
        }
        if (length >= ROW_MOST) {
            return FULL;
        }
        letters[length] = letter;
        length++;
        return length;
    }

    public int row(long row, int n) {
        if (n < 0 || n > ROW_MOST) {
            return OUTSIDE;
        }
        for (int i = 0; i < n; i++) {
            if (!isLetter(letterIn(row, i))) {
                return UNKNOWN;
            }
        }
        for (int i = 0; i < n; i++) {
            letters[i] = letterIn(row, i);
        }
        length = n;
        return 1;
    }

    public int run(int reader, int what) {
        if (!isReader(reader)) {
            return UNKNOWN;
        }
        if (what < 0 || what > 4) {
            return OUTSIDE;
        }
        walk.go(readers[reader], letters, length);
        switch (what) {
            case 0: return walk.end;
            case 1: return walk.moves;
            case 2: return walk.place;
            case 3: return walk.state;
            default: return walk.saidSize;
        }
    }

    public int said(int reader, int k) {
        if (!isReader(reader)) {
            return UNKNOWN;
        }
        if (k < 0) {
            return OUTSIDE;
        }
        walk.go(readers[reader], letters, length);
        return k < walk.saidSize ? walk.said[k] : NONE;
    }

    // ---- tables

    public int table(int reader, int side, int state) {
        if (!isReader(reader) || !readers[reader].hasState(state)) {
            return UNKNOWN;
        }
        if (side < 0 || side > 1) {
            return OUTSIDE;
        }
        if (length == 0) {
            return NOT;
        }
        return Kinds.entry(Kinds.tableOfRow(readers[reader], letters, length), side, state);
    }

    public int like(int reader, int k) {
        if (!isReader(reader)) {
            return UNKNOWN;
        }
        if (k < -1) {
            return OUTSIDE;
        }
        if (length == 0) {
            return NOT;
        }
        Kinds all = kindsOf(reader);
        if (all.finds.spent) {
            return SPENT;
        }
        long wanted = Kinds.tableOfRow(readers[reader], letters, length);
        return all.finds.rowTo(all.finds.keys.indexOf(wanted), k);
    }

    public int kinds(int reader) {
        if (!isReader(reader)) {
            return UNKNOWN;
        }
        Kinds all = kindsOf(reader);
        return all.finds.spent ? SPENT : all.finds.keys.size;
    }

    // ---- counts

    public int many(int reader, int n) {
        if (!isReader(reader)) {
            return UNKNOWN;
        }
        if (n < 0 || n > COUNTED_MOST) {
            return OUTSIDE;
        }
        Least least = leastOf(reader);
        return least == null ? SPENT : least.takenOfLength(n);
    }

    public int of(int reader, int n, int i, int k) {
        if (!isReader(reader)) {
            return UNKNOWN;
        }
        if (n < 0 || n > TOLD_MOST || i < 0 || k < 0) {
            return OUTSIDE;
        }
        Least least = leastOf(reader);
        return least == null ? SPENT : least.letterOfTaken(n, i, k);
    }

    public int rank(int reader) {
        if (!isReader(reader)) {
            return UNKNOWN;
        }
        if (length > TOLD_MOST) {
            return NOT;
        }
        Least least = leastOf(reader);
        return least == null ? SPENT : least.placeOfRow(letters, length);
    }

    public int fewest(int reader) {
        if (!isReader(reader)) {
            return UNKNOWN;
        }
        Least least = leastOf(reader);
        return least == null ? SPENT : least.size;
    }

    public int alike(int reader, int i, int j) {
        if (!isReader(reader)) {
            return UNKNOWN;
        }
        if (i < 0 || i > length || j < 0 || j > length) {
            return OUTSIDE;
        }
        Least least = leastOf(reader);
        if (least == null) {
            return SPENT;
        }
        return least.stateBehind(letters, i) == least.stateBehind(letters, j) ? 1 : 0;
    }

    // ---- shortest rows

    public int shortest(int reader, int k) {
        return firstRowEnding(reader, TAKES, k);
    }

    public int round(int reader, int k) {
        return firstRowEnding(reader, AROUND, k);
    }

    public int parted(int k) {
        if (k < -1) {
            return OUTSIDE;
        }
        Beginnings one = beginningsOf(0), other = beginningsOf(1);
        if (one.finds.spent || other.finds.spent) {
            return SPENT;
        }
        if (pairs == null) {
            pairs = new Pairs(one, other);
        }
        pairs.renew();
        return pairs.finds.spent ? SPENT : pairs.finds.rowTo(pairs.parting, k);
    }

    public int otherwise(int n, int k) {
        if (n < 0 || n > TRIED_MOST || k < -1) {
            return OUTSIDE;
        }
        if (sayings == null) {
            sayings = new Sayings(readers[0], readers[1]);
        }
        return sayings.firstOtherwise(n, k);
    }

    public int most(int reader, int n) {
        if (!isReader(reader)) {
            return UNKNOWN;
        }
        if (n < 0 || n > TRIED_MOST) {
            return OUTSIDE;
        }
        int best = NONE;
        rows.begin(n);
        for (int left = rows.howMany(); left > 0; left--) {
            walk.go(readers[reader], rows.letters, n);
            if (walk.end != AROUND) {
                best = Math.max(best, walk.moves);
            }
            rows.forward();
        }
        return best;
    }

    public int count(int what) {
        switch (what) {
            case 0: return length;
            case 1: return text.size;
            case 2: return readers[0].size;
            case 3: return readers[1].size;
            default: return OUTSIDE;
        }
    }

    // ---- what the calls share

    private static boolean isReader(int reader) {
        return reader >= 0 && reader < READERS;
    }

    private static boolean isSign(int sign) {
        return sign >= 0 && sign < SIGNS;
    }

    private static boolean isLetter(int letter) {
        return letter >= 0 && letter < LETTERS;
    }

    private static int letterIn(long row, int i) {
        return (int) (row >> 2 * i & 3);
    }

    private int firstRowEnding(int reader, int end, int k) {
        if (!isReader(reader)) {
            return UNKNOWN;
        }
        if (k < -1) {
            return OUTSIDE;
        }
        Beginnings all = beginningsOf(reader);
        return all.finds.spent ? SPENT : all.finds.rowTo(all.firstEnding(end), k);
    }

    private Kinds kindsOf(int reader) {
        if (tables[reader] == null) {
            tables[reader] = new Kinds(readers[reader]);
        }
        tables[reader].renew();
        return tables[reader];
    }

    private Beginnings beginningsOf(int reader) {
        if (beginnings[reader] == null) {
            beginnings[reader] = new Beginnings(readers[reader]);
        }
        beginnings[reader].renew();
        return beginnings[reader];
    }

    /** null: SPENT. */
    private Least leastOf(int reader) {
        Beginnings all = beginningsOf(reader);
        if (all.finds.spent) {
            return null;
        }
        if (leasts[reader] == null) {
            leasts[reader] = new Least(all);
        }
        leasts[reader].renew();
        return leasts[reader];
    }

    /** One reader: its states, which of them take, and its moves. */
    private static final class Reader {
        private int states = 1;
        private int takes = 0;
        private int size = 0;
        // Grows with every change, so that what was searched out before can tell that it is old.
        private int version = 0;
        // By state and sign: the move in one number, or NONE.
        private final int[] packed = new int[STATES * SIGNS];

        Reader() {
            Arrays.fill(packed, NONE);
        }

        void become(int newStates, int newTakes) {
            states = newStates;
            takes = newTakes;
            size = 0;
            Arrays.fill(packed, NONE);
            version++;
        }

        boolean hasState(int state) {
            return state >= 0 && state < states;
        }

        boolean takesIn(int state) {
            return hasState(state) && (takes >> state & 1) == 1;
        }

        static int pack(int to, boolean right, int says) {
            return to << 3 | (right ? 4 : 0) | says + 1;
        }

        static int target(int move) {
            return move >> 3;
        }

        static boolean goesRight(int move) {
            return (move & 4) == 4;
        }

        static int saying(int move) {
            return (move & 3) - 1;
        }

        int moveOf(int state, int sign) {
            boolean known = state >= 0 && state < states && sign >= 0 && sign < SIGNS;
            return known ? packed[state * SIGNS + sign] : NONE;
        }

        void put(int state, int sign, int move) {
            if (!hasState(state) || !isSign(sign)) {
                return;
            }
            int cell = state * SIGNS + sign;
            size += (move == NONE ? 0 : 1) - (packed[cell] == NONE ? 0 : 1);
            packed[cell] = move;
            version++;
        }
    }

    /** THE TEXT, and the reading of it token by token. */
    private static final class Text {
        private static final int FROM = 0, SIGN = 1, STEP = 2, WORD_TO = 3, TO = 4, BEHIND_TO = 5;
        private static final int SAID = 6, BEHIND_SAID = 7, OVER = 8;

        private final int[] bytes = new int[TEXT_MOST];
        private int size = 0;
        private int start;
        private int end;
        private int from;
        private int sign;
        private boolean right;
        private int to;
        private int says;

        boolean append(long more, int n) {
            if (size + n > TEXT_MOST) {
                return false;
            }
            for (int i = 0; i < n; i++) {
                bytes[size + i] = (int) (more >> 8 * i & 255);
            }
            size += n;
            return true;
        }

        /** The place of the fault for a reader, or NONE; with keep the moves that were read become the reader's. */
        int parse(Reader reader, boolean keep) {
            int slot = FROM;
            end = 0;
            for (int tokens = 0; tokens <= TEXT_MOST; tokens++) {
                findToken();
                int then = start < size ? slotBehind(slot, reader) : slotAtEnd(slot);
                if (then == NONE) {
                    return start;
                }
                if (keep && (then == FROM || then == OVER)) {
                    reader.put(from, sign, Reader.pack(to, right, says));
                }
                if (then == OVER) {
                    return NONE;
                }
                slot = then;
            }
            return NONE;
        }

        private void findToken() {
            start = end;
            while (start < size && bytes[start] == ' ') {
                start++;
            }
            end = start;
            int kind = kindAt(start);
            do {
                end++;
            } while (end < size && kind != 0 && kindAt(end) == kind);
        }

        private int kindAt(int place) {
            int sign = byteAt(place);
            return sign >= 'a' && sign <= 'z' ? 1 : sign >= '0' && sign <= '9' ? 2 : 0;
        }

        private int byteAt(int place) {
            return place >= 0 && place < size ? bytes[place] : NONE;
        }

        /** Takes the token in if it can stand in the slot: the slot that comes next, or NONE. */
        private int slotBehind(int slot, Reader reader) {
            switch (slot) {
                case FROM:
                    from = stateHere(reader);
                    return from == NONE ? NONE : SIGN;
                case SIGN:
                    sign = signHere();
                    return sign == NONE ? NONE : STEP;
                case STEP:
                    right = isHere("right");
                    return canStep() ? WORD_TO : NONE;
                case WORD_TO:
                    return isHere("to") ? TO : NONE;
                case TO:
                    to = stateHere(reader);
                    says = NONE;
                    return to == NONE ? NONE : BEHIND_TO;
                case BEHIND_TO:
                    return isHere(";") ? FROM : isHere("say") ? SAID : NONE;
                case SAID:
                    says = letterHere();
                    return says == NONE ? NONE : BEHIND_SAID;
                default:
                    return isHere(";") ? FROM : NONE;
            }
        }

        private static int slotAtEnd(int slot) {
            return slot == BEHIND_TO || slot == BEHIND_SAID ? OVER : NONE;
        }

        private boolean canStep() {
            return right ? sign != RIGHT_END : isHere("left") && sign != LEFT_END;
        }

        private int stateHere(Reader reader) {
            int state = byteAt(start) - '0';
            return end - start == 1 && reader.hasState(state) ? state : NONE;
        }

        private int letterHere() {
            int letter = byteAt(start) - 'a';
            return end - start == 1 && isLetter(letter) ? letter : NONE;
        }

        private int signHere() {
            return isHere("first") ? LEFT_END : isHere("last") ? RIGHT_END : letterHere();
        }

        private boolean isHere(String word) {
            if (word.length() != end - start) {
                return false;
            }
            for (int i = 0; i < word.length(); i++) {
                if (byteAt(start + i) != word.charAt(i)) {
                    return false;
                }
            }
            return true;
        }
    }

    /** One reader's way over one row. */
    private static final class Walk {
        private static final int MOVES_MOST = STATES * (ROW_MOST + 2);

        // Bit p of a state's mask: the reader was on place p in that state.
        private final long[] seen = new long[STATES];
        private final int[] said = new int[MOVES_MOST];
        private int saidSize;
        private int end;
        private int moves;
        private int place;
        private int state;

        void go(Reader reader, int[] row, int n) {
            Arrays.fill(seen, 0L);
            saidSize = 0;
            place = 0;
            state = 0;
            end = AROUND;
            for (moves = 0; moves <= MOVES_MOST; moves++) {
                if (wasHere()) {
                    return;
                }
                int move = reader.moveOf(state, signAt(row, n));
                if (move == NONE) {
                    end = place > n && reader.takesIn(state) ? TAKES : STOPS;
                    return;
                }
                say(Reader.saying(move));
                place += Reader.goesRight(move) ? 1 : -1;
                state = Reader.target(move);
            }
        }

        boolean saidAs(Walk other) {
            if (saidSize != other.saidSize) {
                return false;
            }
            for (int i = 0; i < saidSize; i++) {
                if (said[i] != other.said[i]) {
                    return false;
                }
            }
            return true;
        }

        private boolean wasHere() {
            if (state < 0 || state >= STATES) {
                return true;
            }
            boolean was = (seen[state] >> place & 1L) == 1L;
            seen[state] |= 1L << place;
            return was;
        }

        private int signAt(int[] row, int n) {
            if (place > 0 && place <= n && place <= row.length) {
                return row[place - 1];
            }
            return place <= 0 ? LEFT_END : RIGHT_END;
        }

        private void say(int letter) {
            if (letter != NONE && saidSize < said.length) {
                said[saidSize] = letter;
                saidSize++;
            }
        }
    }

    /** All rows of one short length, in order. */
    private static final class Rows {
        private static final int[] POWERS = {1, 3, 9, 27, 81, 243, 729, 2187};

        private final int[] letters = new int[TRIED_MOST];
        private int length = 0;

        void begin(int n) {
            length = Math.max(0, Math.min(n, TRIED_MOST));
            Arrays.fill(letters, 0);
        }

        int howMany() {
            return length >= 0 && length < POWERS.length ? POWERS[length] : 0;
        }

        void forward() {
            for (int i = length - 1; i >= 0; i--) {
                if (letters[i] < LETTERS - 1) {
                    letters[i]++;
                    return;
                }
                letters[i] = 0;
            }
        }
    }

    /** Different numbers, each with its index in the order in which they came. */
    private static final class Keys {
        private static final long MIX = 0x9E3779B97F4A7C15L;

        private final long[] keys;
        // Index + 1 of a key; 0: free. Twice as many slots as keys at least, a power of two.
        private final int[] slots;
        private int size = 0;

        Keys(int most) {
            int wide = 2;
            for (int doubled = 0; doubled < 20 && wide < 2 * most; doubled++) {
                wide *= 2;
            }
            keys = new long[Math.max(0, Math.min(most, wide / 2))];
            slots = new int[wide];
        }

        void clear() {
            size = 0;
            Arrays.fill(slots, 0);
        }

        boolean isFull() {
            return size >= keys.length;
        }

        long keyAt(int index) {
            return index >= 0 && index < size ? keys[index] : 0L;
        }

        int indexOf(long key) {
            return slots[slotOf(key)] - 1;
        }

        /** The index of a key, which is taken in if it is new and there is room; else NONE. */
        int indexWith(long key) {
            int slot = slotOf(key);
            if (slots[slot] == 0 && !isFull()) {
                keys[size] = key;
                size++;
                slots[slot] = size;
            }
            return slots[slot] - 1;
        }

        private int slotOf(long key) {
            int last = slots.length - 1;
            int slot = (int) (key * MIX >>> 40) & last;
            for (int tries = 0; tries < last; tries++) {
                int index = slots[slot] - 1;
                if (index < 0 || index >= keys.length || keys[index] == key) {
                    return slot;
                }
                slot = slot + 1 & last;
            }
            return slot;
        }
    }

    /** What a search over rows by length and order has found, each with the first row that leads to it. */
    private static final class Finds {
        private final Keys keys;
        private final int[] parents;
        private final int[] lasts;
        private final int[] lengths;
        private boolean spent = false;

        Finds(int most) {
            int room = Math.max(0, most);
            keys = new Keys(room);
            parents = new int[room];
            lasts = new int[room];
            lengths = new int[room];
        }

        void clear() {
            keys.clear();
            spent = false;
        }

        /** A key's index; a new one's row is the parent's (NONE: the empty one) and a letter more (NONE: no letter). */
        int reach(long key, int parent, int letter) {
            int before = keys.size;
            int index = keys.indexWith(key);
            if (index == NONE) {
                spent = true;
            } else if (index == before && index < parents.length) {
                parents[index] = parent;
                lasts[index] = letter;
                lengths[index] = (parent >= 0 && parent < index ? lengths[parent] : 0) + (letter == NONE ? 0 : 1);
            }
            return index;
        }

        /** The length (k -1) of the row that leads to a find, or its letter k; NONE. */
        int rowTo(int index, int k) {
            if (index < 0 || index >= keys.size || index >= lengths.length || k >= lengths[index]) {
                return NONE;
            }
            if (k < 0) {
                return lengths[index];
            }
            int at = index;
            for (int place = lengths[index] - 1; place > k && at >= 0 && at < parents.length; place--) {
                at = parents[at];
            }
            return at >= 0 && at < lasts.length ? lasts[at] : NONE;
        }
    }

    /** The tables of all rows by one reader; a table is packed into a long, four bits for a side and a state. */
    private static final class Kinds {
        private static final int STOPS_WITHIN = 10, AROUND_WITHIN = 11;

        private final Reader reader;
        private final Finds finds = new Finds(KINDS_MOST);
        private final long[] ofLetters = new long[LETTERS];
        private int version = NONE;

        Kinds(Reader reader) {
            this.reader = reader;
        }

        void renew() {
            if (version == reader.version) {
                return;
            }
            version = reader.version;
            finds.clear();
            for (int letter = 0; letter < LETTERS; letter++) {
                ofLetters[letter] = tableOfLetter(reader, letter);
                finds.reach(ofLetters[letter], NONE, letter);
            }
            for (int i = 0; i < KINDS_MOST && i < finds.keys.size && !finds.spent; i++) {
                for (int letter = 0; letter < LETTERS; letter++) {
                    finds.reach(joined(reader, finds.keys.keyAt(i), ofLetters[letter]), i, letter);
                }
            }
        }

        static int entry(long table, int side, int state) {
            return (int) (table >> 4 * (side * STATES + state) & 15);
        }

        static long tableOfRow(Reader reader, int[] row, int n) {
            long table = 0L;
            for (int i = 0; i < n && i < row.length; i++) {
                long more = tableOfLetter(reader, row[i]);
                table = i == 0 ? more : joined(reader, table, more);
            }
            return table;
        }

        private static long tableOfLetter(Reader reader, int letter) {
            long table = 0L;
            for (int state = 0; state < reader.states; state++) {
                int leaves = leavingLetter(reader.moveOf(state, letter));
                table |= placed(leaves, 0, state) | placed(leaves, 1, state);
            }
            return table;
        }

        private static int leavingLetter(int move) {
            return move == NONE ? STOPS_WITHIN : 2 * Reader.target(move) + (Reader.goesRight(move) ? 1 : 0);
        }

        private static long placed(int leaves, int side, int state) {
            return (long) leaves << 4 * (side * STATES + state);
        }

        private static long joined(Reader reader, long left, long right) {
            long table = 0L;
            for (int state = 0; state < reader.states; state++) {
                table |= placed(leaving(left, right, true, entry(left, 0, state)), 0, state);
                table |= placed(leaving(left, right, false, entry(right, 1, state)), 1, state);
            }
            return table;
        }

        /** How a way goes on out of two rows side by side, when it leaves one of them so. */
        private static int leaving(long left, long right, boolean inLeft, int leaves) {
            boolean leftNow = inLeft;
            int now = leaves;
            // The seam can be crossed in as many ways as there are states, twice; once more, and it goes around.
            for (int crossed = 0; crossed <= 2 * STATES; crossed++) {
                boolean toRight = (now & 1) == 1;
                if (now >= STOPS_WITHIN || leftNow != toRight) {
                    return now;
                }
                now = leftNow ? entry(right, 0, now >> 1) : entry(left, 1, now >> 1);
                leftNow = !leftNow;
            }
            return AROUND_WITHIN;
        }
    }

    /**
     * What all beginnings do by one reader; that is packed three bits each: how it is left first, and how
     * when the reader comes back in each state.
     */
    private static final class Beginnings {
        private static final int STOPS_WITHIN = 5, AROUND_WITHIN = 6;

        private final Reader reader;
        private final Finds finds = new Finds(BEGINNINGS_MOST);
        private final int[] nexts = new int[BEGINNINGS_MOST * LETTERS];
        private final int[] ends = new int[BEGINNINGS_MOST];
        private int version = NONE;

        Beginnings(Reader reader) {
            this.reader = reader;
        }

        void renew() {
            if (version == reader.version) {
                return;
            }
            version = reader.version;
            finds.clear();
            finds.reach(empty(), NONE, NONE);
            for (int i = 0; i < BEGINNINGS_MOST && i < finds.keys.size && !finds.spent; i++) {
                long beginning = finds.keys.keyAt(i);
                ends[i] = endOf(beginning);
                for (int letter = 0; letter < LETTERS; letter++) {
                    nexts[i * LETTERS + letter] = finds.reach(longer(beginning, letter), i, letter);
                }
            }
        }

        boolean takes(int beginning) {
            return beginning >= 0 && beginning < BEGINNINGS_MOST && ends[beginning] == TAKES;
        }

        /** The index of what a beginning and a letter behind it do. */
        int next(int beginning, int letter) {
            boolean known = beginning >= 0 && beginning < BEGINNINGS_MOST && letter >= 0 && letter < LETTERS;
            return known ? Math.max(0, nexts[beginning * LETTERS + letter]) : 0;
        }

        int firstEnding(int end) {
            for (int i = 0; i < BEGINNINGS_MOST && i < finds.keys.size; i++) {
                if (ends[i] == end) {
                    return i;
                }
            }
            return NONE;
        }

        private static int first(long beginning) {
            return (int) (beginning & 7);
        }

        private static int back(long beginning, int state) {
            return (int) (beginning >> 3 * (state + 1) & 7);
        }

        private long empty() {
            long backs = 0L;
            for (int state = 0; state < reader.states; state++) {
                int move = reader.moveOf(state, LEFT_END);
                backs |= (long) (move == NONE ? STOPS_WITHIN : Reader.target(move)) << 3 * (state + 1);
            }
            return backs | back(backs, 0);
        }

        private long longer(long beginning, int letter) {
            long backs = 0L;
            for (int state = 0; state < reader.states; state++) {
                backs |= (long) leaving(beginning, letter, state) << 3 * (state + 1);
            }
            int first = first(beginning);
            return backs | (first < STOPS_WITHIN ? back(backs, first) : first);
        }

        /** How the reader goes on to the right from a letter behind a beginning, if it stands there in a state. */
        private int leaving(long beginning, int letter, int state) {
            int now = state;
            for (int turns = 0; turns <= STATES; turns++) {
                int move = reader.moveOf(now, letter);
                if (move == NONE) {
                    return STOPS_WITHIN;
                }
                if (Reader.goesRight(move)) {
                    return Reader.target(move);
                }
                now = back(beginning, Reader.target(move));
                if (now >= STOPS_WITHIN) {
                    return now;
                }
            }
            return AROUND_WITHIN;
        }

        private int endOf(long beginning) {
            int now = first(beginning);
            for (int turns = 0; turns <= STATES && now < STOPS_WITHIN; turns++) {
                int move = reader.moveOf(now, RIGHT_END);
                if (move == NONE) {
                    return reader.takesIn(now) ? TAKES : STOPS;
                }
                now = back(beginning, Reader.target(move));
            }
            return now == STOPS_WITHIN ? STOPS : AROUND;
        }
    }

    /** The least reader that goes only to the right, made of what beginnings do; its state 0 is the first one. */
    private static final class Least {
        private static final int PRIME = 1000000007;

        private final Beginnings all;
        private final int[] groups = new int[BEGINNINGS_MOST];
        private final int[] fresh = new int[BEGINNINGS_MOST];
        private final Keys keys = new Keys(BEGINNINGS_MOST);
        private int size = 0;
        private final int[] nexts = new int[BEGINNINGS_MOST * LETTERS];
        // How many rows of a length up to 12 it takes from a state.
        private final int[] ways = new int[(TOLD_MOST + 1) * BEGINNINGS_MOST];
        // How many rows of each length it takes, as far as it was asked for; and by state for the next length.
        private final int[] series = new int[COUNTED_MOST + 1];
        private int seriesSize = 0;
        private int[] now = new int[BEGINNINGS_MOST];
        private int[] then = new int[BEGINNINGS_MOST];
        private int version = NONE;

        Least(Beginnings all) {
            this.all = all;
        }

        void renew() {
            if (version == all.version) {
                return;
            }
            version = all.version;
            part();
            link();
            countShort();
            seriesSize = 0;
            System.arraycopy(ways, 0, now, 0, BEGINNINGS_MOST);
        }

        int takenOfLength(int n) {
            for (int length = seriesSize; length <= n && length <= COUNTED_MOST; length++) {
                series[length] = now[0];
                seriesSize = length + 1;
                lengthen();
            }
            return n >= 0 && n <= COUNTED_MOST ? series[n] : NONE;
        }

        int letterOfTaken(int n, int i, int k) {
            if (k >= n || i >= waysFrom(0, n)) {
                return NONE;
            }
            int state = 0;
            int left = i;
            int letter = 0;
            for (int place = 0; place <= k; place++) {
                letter = 0;
                for (int tries = 1; tries < LETTERS; tries++) {
                    int skipped = waysFrom(next(state, letter), n - place - 1);
                    if (left < skipped) {
                        break;
                    }
                    left -= skipped;
                    letter++;
                }
                state = next(state, letter);
            }
            return letter;
        }

        int placeOfRow(int[] row, int n) {
            int state = 0;
            int before = 0;
            for (int place = 0; place < n && place < row.length; place++) {
                for (int letter = 0; letter < row[place]; letter++) {
                    before += waysFrom(next(state, letter), n - place - 1);
                }
                state = next(state, row[place]);
            }
            return waysFrom(state, 0) == 1 ? before : NONE;
        }

        int stateBehind(int[] row, int n) {
            int state = 0;
            for (int place = 0; place < n && place < row.length; place++) {
                state = next(state, row[place]);
            }
            return state;
        }

        private int next(int state, int letter) {
            return state >= 0 && state < size && isLetter(letter) ? nexts[state * LETTERS + letter] : 0;
        }

        private int waysFrom(int state, int length) {
            boolean known = state >= 0 && state < size && length >= 0 && length <= TOLD_MOST;
            return known ? ways[length * BEGINNINGS_MOST + state] : 0;
        }

        /** Parts beginnings by whether they are taken, then by the parts of those a letter longer, till none part. */
        private void part() {
            int beginnings = all.finds.keys.size;
            keys.clear();
            for (int i = 0; i < beginnings && i < BEGINNINGS_MOST; i++) {
                groups[i] = Math.max(0, keys.indexWith(all.takes(i) ? 1L : 0L));
            }
            for (int round = 0; round < BEGINNINGS_MOST; round++) {
                int before = keys.size;
                for (int letter = 0; letter < LETTERS; letter++) {
                    partBy(letter, beginnings);
                }
                if (keys.size == before) {
                    break;
                }
            }
            size = keys.size;
        }

        private void partBy(int letter, int beginnings) {
            keys.clear();
            for (int i = 0; i < beginnings && i < BEGINNINGS_MOST; i++) {
                long key = (long) groups[i] * BEGINNINGS_MOST + groupBehind(i, letter);
                fresh[i] = Math.max(0, keys.indexWith(key));
            }
            System.arraycopy(fresh, 0, groups, 0, BEGINNINGS_MOST);
        }

        private int groupBehind(int beginning, int letter) {
            int behind = all.next(beginning, letter);
            return behind >= 0 && behind < BEGINNINGS_MOST ? groups[behind] : 0;
        }

        private void link() {
            Arrays.fill(ways, 0);
            for (int i = 0; i < all.finds.keys.size && i < BEGINNINGS_MOST; i++) {
                int group = groups[i];
                if (group < 0 || group >= BEGINNINGS_MOST) {
                    continue;
                }
                ways[group] = all.takes(i) ? 1 : 0;
                for (int letter = 0; letter < LETTERS; letter++) {
                    nexts[group * LETTERS + letter] = groupBehind(i, letter);
                }
            }
        }

        private void countShort() {
            for (int length = 1; length <= TOLD_MOST; length++) {
                for (int state = 0; state < size && state < BEGINNINGS_MOST; state++) {
                    int sum = 0;
                    for (int letter = 0; letter < LETTERS; letter++) {
                        sum += waysFrom(next(state, letter), length - 1);
                    }
                    ways[length * BEGINNINGS_MOST + state] = sum;
                }
            }
        }

        private void lengthen() {
            for (int state = 0; state < size && state < then.length; state++) {
                long sum = 0L;
                for (int letter = 0; letter < LETTERS; letter++) {
                    int behind = next(state, letter);
                    sum += behind >= 0 && behind < now.length ? now[behind] : 0;
                }
                then[state] = (int) (sum % PRIME);
            }
            int[] spare = now;
            now = then;
            then = spare;
        }
    }

    /** Pairs of what beginnings do by the two readers. */
    private static final class Pairs {
        private final Beginnings one;
        private final Beginnings other;
        private final Finds finds = new Finds(PAIRS_MOST);
        private int oneVersion = NONE;
        private int otherVersion = NONE;
        private int parting = NONE;

        Pairs(Beginnings one, Beginnings other) {
            this.one = one;
            this.other = other;
        }

        void renew() {
            if (oneVersion == one.version && otherVersion == other.version) {
                return;
            }
            oneVersion = one.version;
            otherVersion = other.version;
            parting = NONE;
            finds.clear();
            finds.reach(0L, NONE, NONE);
            for (int i = 0; i < PAIRS_MOST && i < finds.keys.size && !finds.spent; i++) {
                int left = (int) (finds.keys.keyAt(i) / BEGINNINGS_MOST);
                int right = (int) (finds.keys.keyAt(i) % BEGINNINGS_MOST);
                if (parting == NONE && parts(left, right)) {
                    parting = i;
                }
                for (int letter = 0; letter < LETTERS; letter++) {
                    long key = (long) one.next(left, letter) * BEGINNINGS_MOST + other.next(right, letter);
                    finds.reach(key, i, letter);
                }
            }
        }

        private boolean parts(int left, int right) {
            return one.takes(left) != other.takes(right);
        }
    }

    /** The first row that both readers take and do not say the same on. */
    private static final class Sayings {
        private final Reader one;
        private final Reader other;
        private final Walk oneWalk = new Walk();
        private final Walk otherWalk = new Walk();
        private final Rows rows = new Rows();
        private int oneVersion = NONE;
        private int otherVersion = NONE;
        // All lengths below this were tried.
        private int tried = 0;
        // While true, rows stand at the row that was found.
        private boolean found = false;

        Sayings(Reader one, Reader other) {
            this.one = one;
            this.other = other;
        }

        int firstOtherwise(int n, int k) {
            renew();
            for (int length = tried; length <= n && length <= TRIED_MOST && !found; length++) {
                tryLength(length);
                tried = length + 1;
            }
            if (!found || rows.length > n || k >= rows.length) {
                return NONE;
            }
            return k < 0 ? rows.length : rows.letters[k];
        }

        private void renew() {
            if (oneVersion != one.version || otherVersion != other.version) {
                oneVersion = one.version;
                otherVersion = other.version;
                tried = 0;
                found = false;
            }
        }

        private void tryLength(int length) {
            rows.begin(length);
            for (int left = rows.howMany(); left > 0; left--) {
                if (differ(length)) {
                    found = true;
                    return;
                }
                rows.forward();
            }
        }

        private boolean differ(int length) {
            oneWalk.go(one, rows.letters, length);
            if (oneWalk.end != TAKES) {
                return false;
            }
            otherWalk.go(other, rows.letters, length);
            return otherWalk.end == TAKES && !oneWalk.saidAs(otherWalk);
        }
    }
}
