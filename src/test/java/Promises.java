/** Each promise of the document by hand: ordinary calls, the edges that it names, and what it refuses. */
public final class Promises {
    private static final int NONE = -1, UNKNOWN = -2, OUTSIDE = -3, NOT = -4, FULL = -5, SPENT = -6;
    private static final int LEAST = Integer.MIN_VALUE, GREATEST = Integer.MAX_VALUE;
    private static final int A = 0, B = 1, C = 2;

    private static int wrong = 0;
    private static int checked = 0;
    private static int promise = 0;

    private static void due(String call, int got, int want) {
        checked++;
        if (got != want) {
            wrong++;
            System.out.println("promise " + promise + ": " + call + " answered " + got + ", due is " + want);
        }
    }

    // ---- what the checks share

    private static void write(BothWays x, String text) {
        for (int i = 0; i < text.length(); i += 8) {
            int n = Math.min(8, text.length() - i);
            long bytes = 0;
            for (int j = 0; j < n; j++) {
                bytes |= (long) text.charAt(i + j) << 8 * j;
            }
            due("write " + text, x.write(bytes, n), i + n);
        }
    }

    private static void tell(BothWays x, int reader, int states, int takes, String... texts) {
        due("reader", x.reader(reader, states, takes), 1);
        for (String move : String.join(";", texts).split(";")) {
            write(x, move);
            due("moves of " + move, x.moves(reader) > 0 ? 1 : 0, 1);
        }
    }

    private static BothWays with(int states, int takes, String... texts) {
        BothWays x = new BothWays();
        tell(x, 0, states, takes, texts);
        return x;
    }

    private static void set(BothWays x, String row) {
        long bits = 0;
        for (int i = 0; i < row.length(); i++) {
            bits |= (long) (row.charAt(i) - 'a') << 2 * i;
        }
        due("row " + row, x.row(bits, row.length()), 1);
    }

    private static void dueFault(int states, String text, int want) {
        BothWays x = new BothWays();
        x.reader(1, states, 0);
        write(x, text);
        due("fault of <" + text + ">", x.fault(1), want);
        due("text behind fault", x.count(1), text.length());
        due("moves of <" + text + ">", x.moves(1) == NOT ? 1 : 0, want == NONE ? 0 : 1);
        due("text behind moves", x.count(1), want == NONE ? 0 : text.length());
    }

    private static void dueRun(BothWays x, int reader, String row, int... want) {
        set(x, row);
        for (int what = 0; what < want.length; what++) {
            due("run " + what + " on " + row, x.run(reader, what), want[what]);
        }
    }

    // ---- readers

    private static void newObject() {
        promise = 1;
        BothWays x = new BothWays();
        for (int what = 0; what < 4; what++) {
            due("count " + what, x.count(what), 0);
        }
        for (int reader = 0; reader < 2; reader++) {
            due("move of state 0", x.move(reader, 0, 0, 0), NONE);
            due("move of state 1", x.move(reader, 1, 0, 0), UNKNOWN);
            due("run", x.run(reader, 0), 0);
            due("many", x.many(reader, 0), 0);
        }
        due("erase", x.erase(), 0);
        write(x, Readers.ONWARD);
        due("moves of a reader as at first", x.moves(1), 4);
        due("none of its states takes", x.run(1, 0), 0);
        due("though it came to the right end", x.run(1, 2), 1);
        // A second object knows nothing of the first one.
        x.letter(1);
        write(x, Readers.ONWARD.substring(0, 8));
        x.reader(0, 5, 31);
        BothWays y = new BothWays();
        due("count 0 of another", y.count(0), 0);
        due("count 1 of another", y.count(1), 0);
        due("state of another", y.move(0, 4, 0, 0), UNKNOWN);
    }

    private static void readers() {
        promise = 2;
        BothWays x = new BothWays();
        due("reader(0, 5, 31)", x.reader(0, 5, 31), 1);
        due("state 4", x.move(0, 4, 4, 0), NONE);
        due("reader(0, 1, 1)", x.reader(0, 1, 1), 1);
        due("state 1", x.move(0, 1, 4, 0), UNKNOWN);
        due("reader(1, 1, 0)", x.reader(1, 1, 0), 1);
        for (int reader : new int[] {2, -1, LEAST, GREATEST}) {
            due("reader " + reader, x.reader(reader, 1, 0), UNKNOWN);
            due("reader and states", x.reader(reader, 9, 0), UNKNOWN);
        }
        for (int states : new int[] {0, 6, -1, LEAST, GREATEST, 32, 33}) {
            due("states " + states, x.reader(0, states, 0), OUTSIDE);
        }
        for (int states = 1; states <= 5; states++) {
            due("all take", x.reader(1, states, (1 << states) - 1), 1);
            due("one bit more", x.reader(1, states, 1 << states), OUTSIDE);
            due("bits below 0", x.reader(1, states, -1), OUTSIDE);
            due("highest bit", x.reader(1, states, LEAST), OUTSIDE);
        }
        BothWays y = with(2, 1, Readers.EVEN);
        due("takes none", y.run(0, 0), 1);
        due("refused", y.reader(0, 2, 4), OUTSIDE);
        due("kept moves", y.count(2), 5);
        due("kept what takes", y.run(0, 0), 1);
        due("again", y.reader(0, 2, 1), 1);
        due("moves are gone", y.count(2), 0);
        due("move is gone", y.move(0, 0, 3, 0), NONE);
        due("stops at once", y.run(0, 2), 0);
        due("all rows stop", y.many(0, 3), 0);
    }

    private static void writing() {
        promise = 3;
        BothWays x = new BothWays();
        due("one", x.write(0x4847464544434241L, 1), 1);
        for (int n : new int[] {0, 9, -1, LEAST, GREATEST}) {
            due("n " + n, x.write(0L, n), OUTSIDE);
        }
        due("count", x.count(1), 1);
        for (int i = 1; i < 20; i++) {
            due("eight", x.write(-1L, 8), 8 * i + 1);
        }
        due("full by one", x.write(0L, 8), FULL);
        due("outside ahead of full", x.write(0L, 9), OUTSIDE);
        due("count", x.count(1), 153);
        due("seven", x.write(0L, 7), 160);
        due("full", x.write(0L, 1), FULL);
        due("count", x.count(1), 160);
        // Bytes come in order, with the lowest first; bits beyond n bytes are of no account.
        BothWays y = new BothWays();
        due("0 a", y.write(0x2061_2030L | 0x7fL << 32, 4), 4);
        due("right to", y.write(0x6f74_2074_6867_6972L, 8), 12);
        due(" 0", y.write(0x3020L, 2), 14);
        due("moves", y.moves(0), 1);
        due("a byte of 255", y.write(-1L, 1), 1);
        due("is no token", y.fault(0), 0);
    }

    private static void erasing() {
        promise = 4;
        BothWays x = new BothWays();
        due("empty", x.erase(), 0);
        write(x, Readers.ONWARD);
        due("all", x.erase(), Readers.ONWARD.length());
        due("none", x.erase(), 0);
        due("fault", x.fault(0), 0);
        for (int i = 1; i <= 20; i++) {
            x.write(0L, 8);
        }
        due("160", x.erase(), 160);
        due("room again", x.write(0L, 8), 8);
    }

    private static void faults() {
        promise = 5;
        dueFault(1, "", 0);
        dueFault(1, "   ", 3);
        dueFault(1, "0 a right to 0", NONE);
        dueFault(1, "  0  a  right  to  0  ", NONE);
        dueFault(1, "0a right to0", NONE);
        dueFault(1, "0a right to0say b;0b left to0", NONE);
        dueFault(1, "0 a right to 0 say c", NONE);
        dueFault(1, "0 aright to 0", 2);
        dueFault(1, "0 a rightto 0", 4);
        dueFault(2, "0 a right to 1", NONE);
        dueFault(1, "0 a right to 1", 13);
        dueFault(1, "1 a right to 0", 0);
        dueFault(5, "4 a right to 4", NONE);
        dueFault(5, "5 a right to 4", 0);
        dueFault(5, "9 a right to 4", 0);
        dueFault(1, "00 a right to 0", 0);
        dueFault(2, "0 a right to 01", 13);
        dueFault(2, "0 a right to 10", 13);
        dueFault(2, "0 a right to 1 0", 15);
        dueFault(1, "a right to 0", 0);
        dueFault(1, "; 0 a right to 0", 0);
        dueFault(1, "0 d right to 0", 2);
        dueFault(1, "0 ab right to 0", 2);
        dueFault(1, "0 right to 0", 2);
        dueFault(1, "0 0 right to 0", 2);
        dueFault(1, "0 A right to 0", 2);
        dueFault(1, "0 last left to 0", NONE);
        dueFault(1, "0 first right to 0", NONE);
        dueFault(1, "0 first left to 0", 8);
        dueFault(1, "0 last right to 0", 7);
        dueFault(1, "0 firsts right to 0", 2);
        dueFault(1, "0 firs right to 0", 2);
        dueFault(1, "0 a rights to 0", 4);
        dueFault(1, "0 a lef to 0", 4);
        dueFault(1, "0 a to 0", 4);
        dueFault(1, "0 a right too 0", 10);
        dueFault(1, "0 a right 0", 10);
        dueFault(1, "0 a right to a", 13);
        dueFault(1, "0 a right to 0 say d", 19);
        dueFault(1, "0 a right to 0 say first", 19);
        dueFault(1, "0 a right to 0 say 0", 19);
        dueFault(1, "0 a right to 0 a", 15);
        dueFault(1, "0 a right to 0 say a say b", 21);
        dueFault(1, "0 a right to 0, 0 b right to 0", 14);
        dueFault(1, "0 a right to 0;", 15);
        dueFault(1, "0 a right to 0; ", 16);
        dueFault(1, "0 a right to 0;;", 15);
        dueFault(1, "0 a right to 0 say a ; 0 b right to 0", NONE);
        dueFault(1, "0 a right to 0 say a ; 1 b right to 0", 23);
        dueFault(1, "0 a right to 0\t", 14);
        dueFault(1, "0 a right to 0\u0000", 14);
        dueFault(1, "0\u00e4a right to 0", 1);
        dueFault(1, "-0 a right to 0", 0);
        // The first and last bytes of small letters and of digits, and those next to them.
        dueFault(1, "0 az right to 0", 2);
        dueFault(1, "0 a{ right to 0", 3);
        dueFault(1, "0 a` right to 0", 3);
        dueFault(1, "0 za right to 0", 2);
        dueFault(1, "09 a right to 0", 0);
        dueFault(1, "0/ a right to 0", 1);
        dueFault(1, "0: a right to 0", 1);
        for (String part : new String[] {"0", "0 a", "0 a right", "0 a right to", "0 a right to 0 say", "0 a right to 0;0 "}) {
            dueFault(1, part, part.length());
        }
        BothWays x = new BothWays();
        for (int reader : new int[] {2, -1, LEAST, GREATEST}) {
            due("fault of reader " + reader, x.fault(reader), UNKNOWN);
        }
        x.reader(0, 2, 0);
        write(x, "1 a left to 1");
        due("for reader 0", x.fault(0), NONE);
        due("no moves by being asked", x.count(2), 0);
        due("no move by being asked", x.move(0, 1, A, 0), NONE);
        due("for reader 1", x.fault(1), 0);
        write160();
    }

    private static void write160() {
        BothWays x = new BothWays();
        StringBuilder text = new StringBuilder("0 a right to 0");
        while (text.length() < 159) {
            text.append(' ');
        }
        write(x, text + ";");
        due("fault at the end of a full text", x.fault(0), 160);
        x.erase();
        write(x, text + "x");
        due("fault at the last byte", x.fault(0), 159);
        x.erase();
        write(x, text + " ");
        due("none in a full text", x.fault(0), NONE);
    }

    private static void movesOfTexts() {
        promise = 6;
        BothWays x = new BothWays();
        due("empty text", x.moves(0), NOT);
        due("reader ahead of text", x.moves(2), UNKNOWN);
        x.reader(0, 2, 1);
        write(x, Readers.EVEN);
        due("no such reader", x.moves(-1), UNKNOWN);
        due("text stays", x.count(1), Readers.EVEN.length());
        due("not for reader 1", x.moves(1), NOT);
        due("text stays", x.count(1), Readers.EVEN.length());
        due("nothing of it", x.count(3), 0);
        due("moves", x.moves(0), 5);
        due("text is empty", x.count(1), 0);
        write(x, "0 c left to 1 say b;0 a left to 1 say c;0 c right to 0");
        due("one more, one in place", x.moves(0), 6);
        due("in place: to", x.move(0, 0, A, 0), 1);
        due("in place: step", x.move(0, 0, A, 1), 0);
        due("in place: says", x.move(0, 0, A, 2), C);
        due("the later one: to", x.move(0, 0, C, 0), 0);
        due("the later one: step", x.move(0, 0, C, 1), 1);
        due("the later one: says", x.move(0, 0, C, 2), NONE);
        write(x, "1 c right to 0;1 c right to 2");
        due("a fault behind a move", x.moves(0), NOT);
        due("no move of it", x.move(0, 1, C, 0), NONE);
        due("count", x.count(2), 6);
        due("other reader", x.count(3), 0);
    }

    private static void moveAsked() {
        promise = 7;
        BothWays x = with(3, 0, "0 a left to 2 say b;1 first right to 1;2 last left to 0 say a");
        int[][] want = {{0, A, 2, 0, B}, {1, 3, 1, 1, NONE}, {2, 4, 0, 0, A}, {0, B, NONE, NONE, NONE}};
        for (int[] w : want) {
            for (int what = 0; what < 3; what++) {
                due("move " + w[0] + " " + w[1] + " " + what, x.move(0, w[0], w[1], what), w[2 + what]);
            }
        }
        for (int bad : new int[] {-1, LEAST, GREATEST}) {
            due("reader", x.move(bad, 0, 0, 0), UNKNOWN);
            due("state", x.move(0, bad, 0, 0), UNKNOWN);
            due("sign", x.move(0, 0, bad, 0), UNKNOWN);
            due("what", x.move(0, 0, 0, bad), OUTSIDE);
            due("what, no move", x.move(0, 0, 1, bad), OUTSIDE);
            due("sign ahead of what", x.move(0, 0, bad, bad), UNKNOWN);
        }
        due("reader 2", x.move(2, 0, 0, 0), UNKNOWN);
        due("state 3", x.move(0, 3, 0, 0), UNKNOWN);
        due("state of the other reader", x.move(1, 1, 0, 0), UNKNOWN);
        due("sign 5", x.move(0, 0, 5, 0), UNKNOWN);
        due("what 3", x.move(0, 0, 0, 3), OUTSIDE);
    }

    private static void drops() {
        promise = 8;
        BothWays x = with(2, 1, Readers.EVEN);
        due("reader 2", x.drop(2, 0, 0), UNKNOWN);
        due("reader -1", x.drop(-1, 0, 0), UNKNOWN);
        due("state 2", x.drop(0, 2, 0), UNKNOWN);
        due("state -1", x.drop(0, -1, 0), UNKNOWN);
        due("state far", x.drop(0, GREATEST, 0), UNKNOWN);
        due("sign 5", x.drop(0, 0, 5), UNKNOWN);
        due("sign -1", x.drop(0, 1, -1), UNKNOWN);
        due("sign far", x.drop(0, 0, LEAST), UNKNOWN);
        due("no move", x.drop(0, 0, C), UNKNOWN);
        due("other reader", x.drop(1, 0, A), UNKNOWN);
        due("count", x.count(2), 5);
        due("many before", x.many(0, 2), 2);
        due("drop", x.drop(0, 1, B), 4);
        due("again", x.drop(0, 1, B), UNKNOWN);
        due("move", x.move(0, 1, B, 0), NONE);
        due("many behind", x.many(0, 2), 1);
        due("drop first", x.drop(0, 0, 3), 3);
        due("stops at once", x.run(0, 2), 0);
    }

    // ---- the row

    private static void lettersMore() {
        promise = 9;
        BothWays x = new BothWays();
        for (int letter : new int[] {3, -1, LEAST, GREATEST}) {
            due("letter " + letter, x.letter(letter), UNKNOWN);
        }
        for (int i = 1; i <= 24; i++) {
            due("letter", x.letter(i % 3), i);
        }
        due("full", x.letter(0), FULL);
        due("unknown ahead of full", x.letter(3), UNKNOWN);
        due("count", x.count(0), 24);
        due("shorter", x.row(0L, 23), 1);
        due("room again", x.letter(2), 24);
        BothWays y = with(1, 1, "0 first right to 0;0 a right to 0 say a;0 b right to 0 say b;0 c right to 0 say c");
        y.letter(C);
        y.letter(A);
        y.letter(B);
        due("said", y.said(0, 0), C);
        due("said", y.said(0, 1), A);
        due("said", y.said(0, 2), B);
    }

    private static void rowSet() {
        promise = 10;
        BothWays x = with(1, 1, "0 first right to 0;0 a right to 0 say a;0 b right to 0 say b;0 c right to 0 say c");
        due("row", x.row(0b10_01_00_10L, 4), 1);
        due("count", x.count(0), 4);
        int[] want = {C, A, B, C, NONE};
        for (int k = 0; k < want.length; k++) {
            due("letter " + k, x.said(0, k), want[k]);
        }
        for (int n : new int[] {25, -1, LEAST, GREATEST}) {
            due("n " + n, x.row(0L, n), OUTSIDE);
            due("outside ahead of unknown", x.row(-1L, n), OUTSIDE);
        }
        for (int i = 0; i < 24; i++) {
            due("letter 3 at " + i, x.row(3L << 2 * i, 24), UNKNOWN);
        }
        due("kept", x.count(0), 4);
        due("kept letter", x.said(0, 0), C);
        due("bits beyond n", x.row(-1L << 6, 3), 1);
        due("count", x.count(0), 3);
        due("all bits, no letters", x.row(-1L, 0), 1);
        due("count", x.count(0), 0);
        due("24", x.row(0xaaaaaaaaaaaaL, 24), 1);
        due("last", x.said(0, 23), C);
        due("count", x.count(0), 24);
    }

    private static void runs() {
        promise = 11;
        BothWays x = with(2, 1, Readers.EVEN);
        dueRun(x, 0, "", 1, 1, 1, 0, 0);
        dueRun(x, 0, "ab", 0, 3, 3, 1, 0);
        dueRun(x, 0, "bab", 1, 4, 4, 0, 0);
        dueRun(x, 0, "bca", 0, 2, 2, 1, 0);
        dueRun(x, 1, "bca", 0, 0, 0, 0, 0);
        // To the right end and back, where the first letter stops it: a state that takes is not enough there.
        BothWays y = with(1, 1, "0 first right to 0;0 last left to 0");
        dueRun(y, 0, "a", 0, 1, 1, 0, 0);
        // Around between both ends: the move that comes back to the first place is counted, what it says too.
        BothWays z = with(1, 1, "0 first right to 0 say a;0 last left to 0 say b");
        dueRun(z, 0, "", 2, 2, 0, 0, 2);
        due("said 1", z.said(0, 1), B);
        due("said 2", z.said(0, 2), NONE);
        // Around that does not come to where it began.
        BothWays v = with(2, 3, "0 first right to 0;0 a right to 1 say c;1 a left to 0 say b");
        dueRun(v, 0, "aa", 2, 3, 1, 0, 2);
        // As far as can be: 24 letters there, back, and there.
        BothWays w = with(3, 4, Readers.BACKWARDS);
        dueRun(w, 0, "abcabcabcabcabcabcabcabc", 1, 25 + 25 + 25, 25, 2, 24);
        due("said 0", w.said(0, 0), C);
        due("said 23", w.said(0, 23), A);
        mostMoves();
        due("reader 2", x.run(2, 0), UNKNOWN);
        due("reader -1", x.run(-1, 9), UNKNOWN);
        for (int what : new int[] {5, -1, LEAST, GREATEST}) {
            due("what " + what, x.run(0, what), OUTSIDE);
        }
    }

    /** To and fro till all places were come to in all of five states: 5 times 26, with the last move back to the first. */
    private static void mostMoves() {
        BothWays w = new BothWays();
        w.reader(0, 5, 0);
        for (int state = 0; state < 5; state++) {
            String step = state % 2 == 0 ? "right" : "left";
            for (String sign : new String[] {"a", "b", "c"}) {
                write(w, state + " " + sign + " " + step + " to " + state + " say a");
                w.moves(0);
            }
        }
        write(w, "0 first right to 0;1 first right to 2;3 first right to 4;0 last left to 1;2 last left to 3;4 last left to 3");
        due("moves", w.moves(0), 21);
        dueRun(w, 0, "abcabcabcabcabcabcabcabc", 2, 25 * 5 + 1, 24, 3, 24 * 5);
        due("said far", w.said(0, 119), A);
        due("said beyond", w.said(0, 120), NONE);
    }

    private static void sayings() {
        promise = 12;
        BothWays x = with(3, 4, Readers.BACKWARDS);
        set(x, "abbc");
        int[] want = {C, B, B, A, NONE};
        for (int k = 0; k < want.length; k++) {
            due("said " + k, x.said(0, k), want[k]);
        }
        due("said far", x.said(0, GREATEST), NONE);
        due("said of a reader without moves", x.said(1, 0), NONE);
        due("k -1", x.said(0, -1), OUTSIDE);
        due("k least", x.said(0, LEAST), OUTSIDE);
        due("reader 2", x.said(2, 0), UNKNOWN);
        due("reader ahead of k", x.said(-1, -1), UNKNOWN);
    }

    // ---- tables

    private static void tables() {
        promise = 13;
        BothWays x = with(3, 0, "0 a right to 1;0 b left to 2;1 a left to 0;1 b right to 1;2 a left to 1");
        due("no letters", x.table(0, 0, 0), NOT);
        due("side ahead of no letters", x.table(0, 2, 0), OUTSIDE);
        due("state ahead of side", x.table(0, 2, 3), UNKNOWN);
        set(x, "a");
        int[][] one = {{3, 0, 2}, {3, 0, 2}};
        dueTable(x, one);
        // ab: 0 goes to b in 1 and out to the right; 2 goes out to the left in 1.
        // From the right: 0 goes to a in 2, and out to the left in 1; 2 stops.
        set(x, "ab");
        dueTable(x, new int[][] {{3, 0, 2}, {2, 3, 10}});
        // aa: 0 goes to the second a in 1, back to the first a in 0: around.
        set(x, "aa");
        dueTable(x, new int[][] {{11, 0, 2}, {3, 11, 0}});
        set(x, "c");
        dueTable(x, new int[][] {{10, 10, 10}, {10, 10, 10}});
        for (int bad : new int[] {-1, LEAST, GREATEST}) {
            due("reader", x.table(bad, 0, 0), UNKNOWN);
            due("state", x.table(0, 0, bad), UNKNOWN);
            due("side", x.table(0, bad, 0), OUTSIDE);
        }
        due("state 3", x.table(0, 0, 3), UNKNOWN);
        due("state 1 of reader 1", x.table(1, 0, 1), UNKNOWN);
        due("reader 2", x.table(2, 0, 0), UNKNOWN);
        seam();
        BothWays five = with(5, 0, "0 a left to 4;1 a right to 4;2 a left to 0;3 a right to 0");
        set(five, "a");
        dueTable(five, new int[][] {{8, 9, 0, 1, 10}, {8, 9, 0, 1, 10}});
    }

    /** To and fro over the seam of ab in all five states, and then out to the right. */
    private static void seam() {
        BothWays x = with(5, 16, "0 a right to 0;1 a right to 1;2 a right to 2;3 a right to 3;4 a right to 4;0 first right to 0",
            "0 b left to 1;1 b left to 2;2 b left to 3;3 b left to 4;4 b right to 4");
        set(x, "ab");
        dueTable(x, new int[][] {{9, 9, 9, 9, 9}, {9, 9, 9, 9, 9}});
        due("run", x.run(0, 0), 1);
        due("run", x.run(0, 1), 11);
        due("rank", x.rank(0), 0);
        write(x, "4 b left to 0");
        x.moves(0);
        dueTable(x, new int[][] {{11, 11, 11, 11, 11}, {11, 11, 11, 11, 11}});
        due("around", x.run(0, 0), 2);
        due("rank", x.rank(0), NONE);
        due("round", x.round(0, -1), 2);
    }

    private static void dueTable(BothWays x, int[][] want) {
        for (int side = 0; side < 2; side++) {
            for (int state = 0; state < want[side].length; state++) {
                due("table " + side + " " + state, x.table(0, side, state), want[side][state]);
            }
        }
    }

    private static void likes() {
        promise = 14;
        BothWays x = with(2, 1, Readers.EVEN);
        due("no letters", x.like(0, -1), NOT);
        due("k ahead of no letters", x.like(0, -2), OUTSIDE);
        due("reader ahead of k", x.like(2, -2), UNKNOWN);
        dueLike(x, "babab", "b");
        dueLike(x, "babb", "b");
        // From the right only the last letter counts; with c within, nothing else does.
        dueLike(x, "bb", "bb");
        dueLike(x, "aabba", "a");
        dueLike(x, "abcab", "cb");
        dueLike(x, "ccc", "c");
        due("k least", x.like(0, LEAST), OUTSIDE);
        due("k greatest", x.like(0, GREATEST), NONE);
        due("reader -1", x.like(-1, 0), UNKNOWN);
        // Only a: three states one behind the other, so that the shortest rows are longer.
        BothWays y = with(3, 0, "0 a right to 1;1 a right to 2;2 a right to 0;0 b right to 0;1 b right to 1");
        dueLike(y, "aaaa", "a");
        dueLike(y, "aaa", "aaa");
        dueLike(y, "aaba", "aaba");
        dueLike(y, "aaabb", "b");
        BothWays z = with(4, 13, Readers.KINDS_800);
        set(z, "a");
        due("800 kinds", z.like(0, -1), 1);
        BothWays w = with(4, 8, Readers.KINDS_801);
        due("not ahead of spent", w.like(0, -1), NOT);
        set(w, "a");
        due("801 kinds", w.like(0, -1), SPENT);
        due("outside ahead of spent", w.like(0, -2), OUTSIDE);
    }

    private static void dueLike(BothWays x, String row, String want) {
        set(x, row);
        dueTold("like of " + row, new int[] {x.like(0, -1), x.like(0, 0), x.like(0, 1), x.like(0, 2), x.like(0, 3), x.like(0, 4)}, want);
    }

    private static void dueTold(String call, int[] got, String want) {
        due(call + ": length", got[0], want == null ? NONE : want.length());
        for (int k = 0; k + 1 < got.length; k++) {
            int letter = want != null && k < want.length() ? want.charAt(k) - 'a' : NONE;
            due(call + ": letter " + k, got[k + 1], letter);
        }
    }

    private static void kindsOfTables() {
        promise = 15;
        BothWays x = with(2, 1, Readers.EVEN);
        // From the left even or odd, or that it stops at c; from the right the last letter, and c only behind c.
        due("a, b, bb, ba, c, ca, cb", x.kinds(0), 7);
        due("no moves", x.kinds(1), 1);
        due("reader 2", x.kinds(2), UNKNOWN);
        due("reader -1", x.kinds(-1), UNKNOWN);
        x.drop(0, 1, B);
        // From the left no b, one b, or that all stop; from the right the last letter.
        due("a, b, ba, bb, bba, c", x.kinds(0), 6);
        x.reader(0, 2, 1);
        due("made anew", x.kinds(0), 1);
        due("800 kinds", with(4, 13, Readers.KINDS_800).kinds(0), 800);
        BothWays spent = with(4, 8, Readers.KINDS_801);
        due("801 kinds", spent.kinds(0), SPENT);
        due("the other one", spent.kinds(1), 1);
        spent.reader(0, 1, 0);
        due("no more spent", spent.kinds(0), 1);
    }

    // ---- counts

    private static int powerOfTwo(int n) {
        long power = 1;
        for (int i = 0; i < n; i++) {
            power = power * 2 % 1000000007L;
        }
        return (int) power;
    }

    private static void manyOfLength() {
        promise = 16;
        BothWays x = with(2, 1, Readers.EVEN);
        due("length 10000", x.many(0, 10000), powerOfTwo(9999));
        due("length 0", x.many(0, 0), 1);
        for (int n : new int[] {1, 2, 3, 12, 30, 31, 32, 5000, 9999}) {
            due("length " + n, x.many(0, n), powerOfTwo(n - 1));
        }
        due("no moves", x.many(1, 4), 0);
        tell(x, 1, 1, 1, Readers.ONWARD);
        due("all rows", x.many(1, 18), 387420489);
        due("all rows modulo", x.many(1, 19), 162261460);
        for (int n : new int[] {10001, -1, LEAST, GREATEST}) {
            due("length " + n, x.many(0, n), OUTSIDE);
            due("reader ahead of length", x.many(2, n), UNKNOWN);
        }
        due("reader -1", x.many(-1, 0), UNKNOWN);
    }

    private static void ofLength() {
        promise = 17;
        BothWays x = with(2, 1, Readers.EVEN);
        String[] three = {"aaa", "abb", "bab", "bba"};
        for (int i = 0; i < 5; i++) {
            for (int k = 0; k < 4; k++) {
                int want = i < 4 && k < 3 ? three[i].charAt(k) - 'a' : NONE;
                due("of 3 " + i + " " + k, x.of(0, 3, i, k), want);
            }
        }
        due("of 0", x.of(0, 0, 0, 0), NONE);
        tell(x, 1, 1, 1, Readers.ONWARD);
        for (int k = 0; k < 12; k++) {
            due("last of 12", x.of(1, 12, 531440, k), C);
            due("first of 12", x.of(1, 12, 0, k), A);
        }
        due("behind the last", x.of(1, 12, 531441, 0), NONE);
        due("k 12", x.of(1, 12, 0, 12), NONE);
        due("i far", x.of(1, 12, GREATEST, 0), NONE);
        due("k far", x.of(1, 12, 0, GREATEST), NONE);
        due("n 13", x.of(1, 13, 0, 0), OUTSIDE);
        for (int bad : new int[] {-1, LEAST}) {
            due("n", x.of(0, bad, 0, 0), OUTSIDE);
            due("i", x.of(0, 1, bad, 0), OUTSIDE);
            due("k", x.of(0, 1, 0, bad), OUTSIDE);
            due("reader", x.of(bad, 1, 0, bad), UNKNOWN);
        }
        due("reader 2", x.of(2, 1, 0, 0), UNKNOWN);
    }

    private static void ranks() {
        promise = 18;
        BothWays x = with(2, 1, Readers.EVEN);
        due("empty", x.rank(0), 0);
        due("not taken", x.rank(1), NONE);
        String[] three = {"aaa", "abb", "bab", "bba"};
        for (int i = 0; i < 4; i++) {
            set(x, three[i]);
            due("rank of " + three[i], x.rank(0), i);
        }
        for (String not : new String[] {"aab", "aca", "c", "bbb"}) {
            set(x, not);
            due("rank of " + not, x.rank(0), NONE);
        }
        tell(x, 1, 1, 1, Readers.ONWARD);
        set(x, "cccccccccccc");
        due("last of 12", x.rank(1), 531440);
        x.letter(A);
        due("13 letters", x.rank(1), NOT);
        due("not taken ahead", x.rank(0), NOT);
        due("reader 2", x.rank(2), UNKNOWN);
        due("reader -1", x.rank(-1), UNKNOWN);
    }

    private static void fewestStates() {
        promise = 19;
        BothWays x = with(2, 1, Readers.EVEN);
        due("even, odd, and no more", x.fewest(0), 3);
        due("no moves", x.fewest(1), 1);
        tell(x, 1, 1, 1, Readers.ONWARD);
        due("all rows", x.fewest(1), 1);
        tell(x, 1, 1, 0, Readers.ONWARD);
        due("none of all", x.fewest(1), 1);
        tell(x, 1, 3, 4, Readers.BACKWARDS);
        due("all rows, there, back and there", x.fewest(1), 1);
        // From the right end back over a b; it takes, if a letter is before that, and then on in 2: all that end in ab or bb.
        tell(x, 1, 3, 4, "0 first right to 0;0 a right to 0;0 b right to 0;0 last left to 1;1 b left to 2", "2 a right to 2;2 b right to 2");
        due("b", x.many(1, 1), 0);
        due("ab, bb", x.many(1, 2), 2);
        due("aab, abb, bab, bbb", x.many(1, 3), 4);
        due("no letter, one or an a last, a b last behind others, c within", x.fewest(1), 4);
        due("reader 2", x.fewest(2), UNKNOWN);
        due("reader -1", x.fewest(-1), UNKNOWN);
    }

    private static void alikes() {
        promise = 20;
        BothWays x = with(2, 1, Readers.EVEN);
        due("empty row", x.alike(0, 0, 0), 1);
        set(x, "abbbcab");
        // States behind 0 .. 7 letters: even, even, odd, even, odd, none, none, none.
        int[] states = {0, 0, 1, 0, 1, 2, 2, 2};
        for (int i = 0; i < 8; i++) {
            for (int j = 0; j < 8; j++) {
                due("alike " + i + " " + j, x.alike(0, i, j), states[i] == states[j] ? 1 : 0);
            }
        }
        due("no moves", x.alike(1, 0, 7), 1);
        for (int bad : new int[] {8, -1, LEAST, GREATEST}) {
            due("i", x.alike(0, bad, 0), OUTSIDE);
            due("j", x.alike(0, 0, bad), OUTSIDE);
            due("reader", x.alike(bad, bad, 0), UNKNOWN);
        }
        due("reader 2", x.alike(2, 0, 0), UNKNOWN);
    }

    // ---- shortest rows

    private static void shortestTaken() {
        promise = 21;
        BothWays x = with(2, 1, Readers.EVEN);
        dueTold("empty", new int[] {x.shortest(0, -1), x.shortest(0, 0)}, "");
        dueTold("no moves", new int[] {x.shortest(1, -1), x.shortest(1, 0)}, null);
        // State 3 behind b, any, c: of these the first one.
        tell(x, 1, 4, 8, "0 first right to 0;0 b right to 1;1 c right to 2;1 b right to 2;1 a right to 2;2 c right to 3;3 a right to 3");
        dueTold("three", new int[] {x.shortest(1, -1), x.shortest(1, 0), x.shortest(1, 1), x.shortest(1, 2), x.shortest(1, 3)}, "bac");
        x.drop(1, 1, A);
        dueTold("dropped", new int[] {x.shortest(1, -1), x.shortest(1, 0), x.shortest(1, 1), x.shortest(1, 2), x.shortest(1, 3)}, "bbc");
        due("k greatest", x.shortest(1, GREATEST), NONE);
        for (int k : new int[] {-2, LEAST}) {
            due("k", x.shortest(0, k), OUTSIDE);
            due("k where there is none", x.shortest(1, k), OUTSIDE);
            due("reader", x.shortest(2, k), UNKNOWN);
        }
        due("reader -1", x.shortest(-1, 0), UNKNOWN);
    }

    private static void rounds() {
        promise = 22;
        BothWays x = with(2, 1, Readers.EVEN);
        dueTold("none", new int[] {x.round(0, -1), x.round(0, 0)}, null);
        // From b it goes back to a in 1, and there to b in 0 again.
        tell(x, 1, 2, 0, "0 first right to 0;0 a right to 0;0 b left to 1;1 a right to 0");
        dueTold("ab", new int[] {x.round(1, -1), x.round(1, 0), x.round(1, 1), x.round(1, 2)}, "ab");
        write(x, "0 last left to 0");
        due("moves", x.moves(1), 5);
        dueTold("no letters", new int[] {x.round(1, -1), x.round(1, 0), x.round(1, 1)}, "");
        due("k greatest", x.round(1, GREATEST), NONE);
        for (int k : new int[] {-2, LEAST}) {
            due("k", x.round(0, k), OUTSIDE);
            due("reader", x.round(2, k), UNKNOWN);
        }
        due("reader -1", x.round(-1, -1), UNKNOWN);
    }

    private static void parting() {
        promise = 23;
        BothWays x = new BothWays();
        dueTold("both without moves", new int[] {x.parted(-1), x.parted(0)}, null);
        tell(x, 0, 2, 1, Readers.EVEN);
        dueTold("empty", new int[] {x.parted(-1), x.parted(0)}, "");
        tell(x, 1, 2, 1, Readers.EVEN);
        dueTold("the same", new int[] {x.parted(-1), x.parted(0)}, null);
        x.drop(1, 1, A);
        dueTold("bab", new int[] {x.parted(-1), x.parted(0), x.parted(1), x.parted(2), x.parted(3)}, "bab");
        x.drop(0, 1, A);
        dueTold("the same again", new int[] {x.parted(-1), x.parted(0)}, null);
        due("k -2", x.parted(-2), OUTSIDE);
        due("k least", x.parted(LEAST), OUTSIDE);
        due("k greatest", x.parted(GREATEST), NONE);
        BothWays y = with(5, 23, Readers.PAIRS_4000);
        tell(y, 1, 5, 8, Readers.PAIRS_4000_OTHER);
        due("4000 pairs", y.parted(-1), 0);
        BothWays z = with(5, 23, Readers.PAIRS_4001);
        tell(z, 1, 5, 3, Readers.PAIRS_4001_OTHER);
        due("4001 pairs, though a row parts", z.parted(-1), SPENT);
        due("4001 pairs, a letter", z.parted(0), SPENT);
        due("outside ahead of spent", z.parted(-2), OUTSIDE);
        z.reader(1, 1, 0);
        due("no more spent", z.parted(-1) == SPENT ? 1 : 0, 0);
    }

    private static void otherwiseSaid() {
        promise = 24;
        BothWays x = new BothWays();
        dueTold("both without moves", new int[] {x.otherwise(7, -1), x.otherwise(7, 0)}, null);
        tell(x, 0, 3, 4, Readers.BACKWARDS);
        tell(x, 1, 1, 1, "0 first right to 0;0 a right to 0 say a;0 b right to 0 say b;0 c right to 0 say c");
        // A row is said forwards and backwards the same, if it is one letter or none, or aa.
        dueTold("ab", new int[] {x.otherwise(2, -1), x.otherwise(2, 0), x.otherwise(2, 1), x.otherwise(2, 2)}, "ab");
        dueTold("not up to 1", new int[] {x.otherwise(1, -1), x.otherwise(1, 0)}, null);
        dueTold("not up to 0", new int[] {x.otherwise(0, -1), x.otherwise(0, 0)}, null);
        dueTold("up to 7", new int[] {x.otherwise(7, -1), x.otherwise(7, 0), x.otherwise(7, 1), x.otherwise(7, 2)}, "ab");
        due("k greatest", x.otherwise(7, GREATEST), NONE);
        // The one says nothing of c: that is other letters, then it is fewer of them.
        write(x, "0 c right to 0");
        due("moves", x.moves(1), 4);
        dueTold("c", new int[] {x.otherwise(7, -1), x.otherwise(7, 0), x.otherwise(7, 1)}, "c");
        // Without moves for a and c the first one stops: a row that only one takes is of no account.
        x.drop(0, 0, A);
        x.drop(0, 0, C);
        dueTold("b only", new int[] {x.otherwise(7, -1), x.otherwise(7, 0)}, null);
        write(x, "0 first right to 0 say b");
        x.moves(1);
        dueTold("empty", new int[] {x.otherwise(0, -1), x.otherwise(0, 0)}, "");
        sevenLetters();
        for (int n : new int[] {8, -1, LEAST, GREATEST}) {
            due("n " + n, x.otherwise(n, 0), OUTSIDE);
        }
        due("k -2", x.otherwise(7, -2), OUTSIDE);
        due("k least", x.otherwise(7, LEAST), OUTSIDE);
    }

    /** The one takes rows of 1, 4, 7 .. letters a, the other one of 3, 7, 11 ..: both take seven first. */
    private static void sevenLetters() {
        BothWays x = new BothWays();
        tell(x, 0, 3, 2, "0 first right to 0;0 a right to 1;1 a right to 2;2 a right to 0");
        tell(x, 1, 4, 8, "0 first right to 0;0 a right to 1 say a;1 a right to 2;2 a right to 3;3 a right to 0");
        due("up to 6", x.otherwise(6, -1), NONE);
        due("up to 7", x.otherwise(7, -1), 7);
        for (int k = 0; k < 7; k++) {
            due("letter " + k, x.otherwise(7, k), A);
            due("up to 6, letter " + k, x.otherwise(6, k), NONE);
        }
        due("letter 7", x.otherwise(7, 7), NONE);
    }

    private static void mostOfLength() {
        promise = 25;
        BothWays x = with(2, 1, Readers.EVEN);
        for (int n = 0; n <= 7; n++) {
            due("to the right end", x.most(0, n), n + 1);
            due("no moves", x.most(1, n), 0);
        }
        tell(x, 1, 3, 4, Readers.BACKWARDS);
        due("there, back and there", x.most(1, 7), 24);
        due("and on no letters", x.most(1, 0), 3);
        // Around on rows of a alone: only those with b or c are counted, where it stops.
        tell(x, 1, 2, 0, "0 first right to 0;0 a right to 0;0 last left to 1;1 a right to 0;1 first right to 0");
        due("all of length 0 go around", x.most(1, 0), NONE);
        due("stops at the last of seven", x.most(1, 7), 7);
        due("stops at the one", x.most(1, 1), 1);
        tell(x, 1, 1, 0, Readers.ONWARD + ";0 last left to 0");
        due("all of length 7 go around", x.most(1, 7), NONE);
        for (int n : new int[] {8, -1, LEAST, GREATEST}) {
            due("n " + n, x.most(0, n), OUTSIDE);
            due("reader ahead of n", x.most(2, n), UNKNOWN);
        }
        due("reader -1", x.most(-1, 0), UNKNOWN);
    }

    private static void counts() {
        promise = 26;
        BothWays x = with(2, 1, Readers.EVEN);
        tell(x, 1, 1, 1, Readers.ONWARD);
        set(x, "abc");
        write(x, "0 a");
        int[] want = {3, 3, 5, 4};
        for (int what = 0; what < 4; what++) {
            due("count " + what, x.count(what), want[what]);
        }
        for (int what : new int[] {4, -1, LEAST, GREATEST}) {
            due("count " + what, x.count(what), OUTSIDE);
        }
    }

    public static void main(String[] args) {
        newObject();
        readers();
        writing();
        erasing();
        faults();
        movesOfTexts();
        moveAsked();
        drops();
        lettersMore();
        rowSet();
        runs();
        sayings();
        tables();
        likes();
        kindsOfTables();
        manyOfLength();
        ofLength();
        ranks();
        fewestStates();
        alikes();
        shortestTaken();
        rounds();
        parting();
        otherwiseSaid();
        mostOfLength();
        counts();
        System.out.println(checked + " answers, " + wrong + " not as due");
        if (wrong != 0) {
            System.exit(1);
        }
    }
}
