/**
 * One object under test. It counts the calls, since the document promises nothing behind the 512th, and tells
 * every answer that is not the one that is due together with the sentence that is being tested.
 */
final class Subject {
    static final int NONE = -1, UNKNOWN = -2, OUTSIDE = -3, NOT = -4, FULL = -5, SPENT = -6;
    static final int LEAST = Integer.MIN_VALUE, GREATEST = Integer.MAX_VALUE;
    static final int A = 0, B = 1, C = 2, LEFT_END = 3, RIGHT_END = 4;
    static final int CALLS_MOST = 512;

    private static final int TEXT_MOST = 160, STATES_MOST = 5, SIGNS = 5, ROW_MOST = 24;
    private static final String[] SIGN_WORDS = {"a", "b", "c", "first", "last"};

    private static String sentence = "";
    private static int checked = 0;
    private static int wrong = 0;

    private final BothWays x = new BothWays();
    private int calls = 0;

    static void sentence(String words) {
        sentence = words;
    }

    static void check(String what, long got, long want) {
        checked++;
        if (got != want) {
            wrong++;
            if (wrong <= 60) {
                System.out.println("<" + sentence + "> " + what + " answered " + got + ", due is " + want);
            }
        }
    }

    static void checkSame(String what, String got, String want) {
        check(got.equals(want) ? what : what + "\n  was: " + want + "\n  is:  " + got, got.equals(want) ? 1 : 0, 1);
    }

    /** The end of a test's main: exit code 1 if an answer was not as due. */
    static void finish() {
        System.out.println(checked + " answers, " + wrong + " not as due");
        if (wrong != 0) {
            System.exit(1);
        }
    }

    // ---- calls

    private void countCall() {
        calls++;
        if (calls > CALLS_MOST) {
            throw new IllegalStateException("a test must not use an object for more than 512 calls");
        }
    }

    int callsLeft() {
        return CALLS_MOST - calls;
    }

    int write(long bytes, int n) {
        countCall();
        return x.write(bytes, n);
    }

    int row(long bits, int n) {
        countCall();
        return x.row(bits, n);
    }

    int ask(String call, int... with) {
        countCall();
        switch (call) {
            case "reader": return x.reader(with[0], with[1], with[2]);
            case "erase": return x.erase();
            case "fault": return x.fault(with[0]);
            case "moves": return x.moves(with[0]);
            case "move": return x.move(with[0], with[1], with[2], with[3]);
            case "drop": return x.drop(with[0], with[1], with[2]);
            case "letter": return x.letter(with[0]);
            case "run": return x.run(with[0], with[1]);
            case "said": return x.said(with[0], with[1]);
            case "table": return x.table(with[0], with[1], with[2]);
            case "like": return x.like(with[0], with[1]);
            case "kinds": return x.kinds(with[0]);
            case "many": return x.many(with[0], with[1]);
            case "of": return x.of(with[0], with[1], with[2], with[3]);
            case "rank": return x.rank(with[0]);
            case "fewest": return x.fewest(with[0]);
            case "alike": return x.alike(with[0], with[1], with[2]);
            case "shortest": return x.shortest(with[0], with[1]);
            case "round": return x.round(with[0], with[1]);
            case "parted": return x.parted(with[0]);
            case "otherwise": return x.otherwise(with[0], with[1]);
            case "most": return x.most(with[0], with[1]);
            case "count": return x.count(with[0]);
            default: throw new IllegalArgumentException(call);
        }
    }

    static String named(String call, int... with) {
        StringBuilder all = new StringBuilder(call).append('(');
        for (int i = 0; i < with.length; i++) {
            all.append(i == 0 ? "" : ", ").append(with[i]);
        }
        return all.append(')').toString();
    }

    /** The answer first, so that the call reads as it is written. */
    void due(int want, String call, int... with) {
        check(named(call, with), ask(call, with), want);
    }

    void dueWrite(int want, long bytes, int n) {
        check("write(" + bytes + ", " + n + ")", write(bytes, n), want);
    }

    void dueRow(int want, long bits, int n) {
        check("row(" + bits + ", " + n + ")", row(bits, n), want);
    }

    /** A row told by a call with k: its length, its letters, and NONE behind them; null: there is none. */
    void dueTold(String want, String call, int... ahead) {
        int[] with = java.util.Arrays.copyOf(ahead, ahead.length + 1);
        with[ahead.length] = -1;
        due(want == null ? NONE : want.length(), call, with);
        int length = want == null ? 0 : want.length();
        for (int k = 0; k < length; k++) {
            with[ahead.length] = k;
            due(want.charAt(k) - 'a', call, with);
        }
        for (int k : new int[] {length, length + 1, GREATEST}) {
            with[ahead.length] = k;
            due(NONE, call, with);
        }
    }

    // ---- texts, readers and rows

    /** Bytes more of THE TEXT, a character each, in pieces of n at most. */
    void text(String bytes, int n) {
        for (int i = 0; i < bytes.length(); i += n) {
            String piece = bytes.substring(i, Math.min(bytes.length(), i + n));
            write(packed(piece), piece.length());
        }
    }

    void text(String bytes) {
        text(bytes, 8);
    }

    static long packed(String piece) {
        long bytes = 0;
        for (int j = 0; j < piece.length(); j++) {
            bytes |= (long) piece.charAt(j) << 8 * j;
        }
        return bytes;
    }

    /** Moves, as many at once as THE TEXT, which must be empty, can hold. */
    void moves(int reader, String moves) {
        StringBuilder text = new StringBuilder();
        for (String move : moves.split(";")) {
            if (text.length() + 1 + move.length() > TEXT_MOST) {
                text(text.toString());
                check("moves of " + text, Math.min(0, ask("moves", reader)), 0);
                text.setLength(0);
            }
            text.append(text.length() == 0 ? "" : ";").append(move);
        }
        text(text.toString());
        check("moves of " + text, Math.min(0, ask("moves", reader)), 0);
    }

    void tell(int reader, int states, int takes, String moves) {
        due(1, "reader", reader, states, takes);
        moves(reader, moves);
    }

    static Subject with(int states, int takes, String moves) {
        Subject s = new Subject();
        s.tell(0, states, takes, moves);
        return s;
    }

    void letters(String row) {
        dueRow(1, bits(row), row.length());
    }

    static long bits(String row) {
        long bits = 0;
        for (int i = 0; i < row.length(); i++) {
            bits |= (long) (row.charAt(i) - 'a') << 2 * i;
        }
        return bits;
    }

    static String times(String what, int n) {
        return what.repeat(n);
    }

    /** Moves for all signs in all of n states, to the next state; letters step to the right, and say themselves. */
    static String allMoves(int states) {
        StringBuilder all = new StringBuilder();
        for (int state = 0; state < states; state++) {
            for (int sign = 0; sign < SIGNS; sign++) {
                all.append(all.length() == 0 ? "" : ";").append(state).append(' ').append(SIGN_WORDS[sign]);
                all.append(sign == RIGHT_END ? " left to " : " right to ").append((state + 1) % states);
                all.append(sign < LEFT_END ? " say " + SIGN_WORDS[sign] : "");
            }
        }
        return all.toString();
    }

    // ---- all that can be seen of an object

    /**
     * Answers that together tell all of the object: readers, what takes, moves, text and row. It changes them at last,
     * so that it is asked once. It makes some 300 calls.
     */
    String seen() {
        StringBuilder all = new StringBuilder();
        for (int what = 0; what < 4; what++) {
            tellInto(all, "count", what);
        }
        for (int reader = 0; reader < 2; reader++) {
            tellInto(all, "fault", reader);
            for (int what = 0; what < 5; what++) {
                tellInto(all, "run", reader, what);
            }
            movesInto(all, reader, 3);
            for (String call : new String[] {"kinds", "fewest", "rank"}) {
                tellInto(all, call, reader);
            }
            tellInto(all, "shortest", reader, -1);
            tellInto(all, "round", reader, -1);
            tellInto(all, "many", reader, 5);
            tellInto(all, "most", reader, 3);
        }
        tellInto(all, "parted", -1);
        tellInto(all, "otherwise", 7, -1);
        tellInto(all, "moves", 0);
        movesInto(all, 0, 1);
        tellInto(all, "erase");
        rowInto(all);
        takesInto(all, 0);
        takesInto(all, 1);
        return all.toString();
    }

    private int tellInto(StringBuilder all, String call, int... with) {
        int answer = ask(call, with);
        all.append(named(call, with)).append('=').append(answer).append(' ');
        return answer;
    }

    private void movesInto(StringBuilder all, int reader, int whats) {
        for (int state = 0; state < STATES_MOST; state++) {
            for (int sign = 0; sign < SIGNS; sign++) {
                int to = tellInto(all, "move", reader, state, sign, 0);
                for (int what = 1; what < whats && to >= 0; what++) {
                    tellInto(all, "move", reader, state, sign, what);
                }
            }
        }
    }

    /** Reader 1 keeps what takes, and says the letters on its first way to the right. */
    private void rowInto(StringBuilder all) {
        text(Readers.ECHO);
        ask("moves", 1);
        for (int k = 0; k < ROW_MOST; k++) {
            tellInto(all, "said", 1, k);
        }
    }

    private void takesInto(StringBuilder all, int reader) {
        row(0L, 0);
        for (int state = 0; state < STATES_MOST; state++) {
            text("0first right to" + state);
            if (ask("moves", reader) == NOT) {
                ask("erase");
            }
            ask("drop", reader, state, RIGHT_END);
            tellInto(all, "run", reader, 0);
        }
    }
}
