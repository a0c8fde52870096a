import java.math.BigInteger;

/** The sentences of the document about counts and shortest rows (promises 16 to 26), each at its bounds. */
public final class EdgesOfCounts {
    private static final int NONE = -1, UNKNOWN = -2, OUTSIDE = -3, NOT = -4, SPENT = -6;
    private static final int LEAST = Integer.MIN_VALUE, GREATEST = Integer.MAX_VALUE;
    private static final int A = 0, B = 1, C = 2, RIGHT_END = 4;
    private static final int TAKES = 1, AROUND = 2;
    private static final int PRIME = 1000000007;
    private static final String FULL_ROW = "abcabcabcabcabcabcabcabc";
    private static int power(int base, int n) {
        return BigInteger.valueOf(base).modPow(BigInteger.valueOf(n), BigInteger.valueOf(PRIME)).intValue();
    }

    // ---- 16: many

    private static void manyOfAllLengths() {
        Subject.sentence("MANY of a length (0 .. 10000)");
        Subject s = Subject.with(1, 1, Readers.ONWARD);
        s.tell(1, 2, 1, Readers.EVEN);
        for (int n : new int[] {0, 1, 2, 12, 13, 24, 25, 800, 801, 4001, 9999, 10000, 5000, 3, 0}) {
            s.due(power(3, n), "many", 0, n);
            s.due(n == 0 ? 1 : power(2, n - 1), "many", 1, n);
        }
        for (int n : new int[] {-1, 10001, LEAST, GREATEST}) {
            s.due(OUTSIDE, "many", 0, n);
            s.due(UNKNOWN, "many", 2, n);
        }
        Subject.sentence("modulo 1000000007");
        s.due(387420489, "many", 0, 18);
        s.due(1162261467 - PRIME, "many", 0, 19);
        s.due(1 << 29, "many", 1, 30);
        s.due((1 << 30) - PRIME, "many", 1, 31);
        for (int n = 14; n < 100; n++) {
            s.due(power(3, n), "many", 0, n);
        }
        Subject.sentence("MANY of a READER as it is now");
        s.due(3, "drop", 0, 0, C);
        s.due(power(2, 10000), "many", 0, 10000);
        s.due(2, "drop", 0, 0, B);
        s.due(1, "many", 0, 10000);
        s.due(1, "drop", 0, 0, A);
        s.due(0, "many", 0, 1);
        s.due(1, "many", 0, 0);
        s.due(0, "drop", 0, 0, 3);
        s.due(0, "many", 0, 0);
        s.due(0, "many", 0, 10000);
    }

    private static void manyByFive() {
        Subject.sentence("how many of them a READER TAKES: none of some lengths, all of others");
        for (int state = 0; state < 5; state++) {
            Subject s = Subject.with(5, 1 << state, Readers.BY_FIVE);
            for (int n : new int[] {0, 1, 2, 3, 4, 5, 6, 9996, 9997, 9998, 9999, 10000}) {
                s.due(n % 5 == state ? power(3, n) : 0, "many", 0, n);
            }
        }
        Subject.sentence("how many it TAKES: not those that it goes AROUND on, or STOPS on");
        Subject t = Subject.with(2, 3, Readers.ONWARD + ";0 last left to 1;1 a right to 0;1 b left to 1");
        // Behind c it stops, behind a it is around; behind b it goes on to the left, and then likewise, or stops at the end.
        for (int n = 0; n <= 6; n++) {
            t.due(0, "many", 0, n);
        }
        t.due(6, "drop", 0, 0, RIGHT_END);
        t.due(729, "many", 0, 6);
    }

    // ---- 17 and 18: of, rank

    private static void ofInOrder() {
        Subject.sentence("ROWS of a length come in order by the first LETTER that is unlike");
        Subject s = Subject.with(1, 1, Readers.ONWARD);
        for (int i = 0; i < 27; i++) {
            s.due(i / 9, "of", 0, 3, i, 0);
            s.due(i / 3 % 3, "of", 0, 3, i, 1);
            s.due(i % 3, "of", 0, 3, i, 2);
            s.due(NONE, "of", 0, 3, i, 3);
            s.letters("" + "abc".charAt(i / 9) + "abc".charAt(i / 3 % 3) + "abc".charAt(i % 3));
            s.due(i, "rank", 0);
        }
        Subject.sentence("row i (from 0); NONE: there is no such");
        for (int n = 0; n <= 12; n++) {
            int rows = (int) Math.pow(3, n);
            s.due(n == 0 ? NONE : C, "of", 0, n, rows - 1, 0);
            s.due(NONE, "of", 0, n, rows, 0);
            s.due(NONE, "of", 0, n, GREATEST, 0);
            s.due(n == 0 ? NONE : A, "of", 0, n, 0, 0);
            s.due(NONE, "of", 0, n, 0, n);
            s.due(NONE, "of", 0, n, 0, GREATEST);
            s.due(n == 0 ? NONE : C, "of", 0, n, rows - 1, Math.max(0, n - 1));
            s.due(NONE, "of", 0, n, rows, Math.max(0, n - 1));
        }
    }

    private static void ofBounds() {
        Subject.sentence("OF a length (0 .. 12); OUTSIDE: n, i, k below 0");
        Subject s = Subject.with(2, 1, Readers.EVEN);
        for (int n : new int[] {-1, 13, 14, 24, LEAST, GREATEST}) {
            s.due(OUTSIDE, "of", 0, n, 0, 0);
            s.due(OUTSIDE, "of", 0, n, GREATEST, GREATEST);
        }
        for (int bad : new int[] {-1, -2, LEAST}) {
            s.due(OUTSIDE, "of", 0, 0, bad, 0);
            s.due(OUTSIDE, "of", 0, 12, 0, bad);
            s.due(UNKNOWN, "of", bad, 12, 0, bad);
        }
        Subject.sentence("OF 12: the i-th that it TAKES, of 2048");
        for (int k = 0; k < 12; k++) {
            s.due(B, "of", 0, 12, 2047, k);
            s.due(A, "of", 0, 12, 0, k);
            s.due(k < 10 ? A : B, "of", 0, 12, 1, k);
            s.due(NONE, "of", 0, 12, 2048, k);
        }
        Subject.sentence("OF a length of which none is taken");
        s.due(NONE, "of", 1, 0, 0, 0);
        s.due(NONE, "of", 1, 12, 0, 0);
        Subject.sentence("OF the READER as it is now");
        s.due(4, "drop", 0, 0, A);
        s.due(B, "of", 0, 12, 0, 0);
        s.due(A, "of", 0, 12, 0, 1);
    }

    private static void ranks() {
        Subject.sentence("Which of the rows of its length that a READER TAKES THE ROW is");
        Subject s = Subject.with(2, 1, Readers.EVEN);
        s.due(0, "rank", 0);
        s.letters("bbbbbbbbbbbb");
        s.due(2047, "rank", 0);
        s.letters("aaaaaaaaaaaa");
        s.due(0, "rank", 0);
        Subject.sentence("NONE: it does not TAKE it");
        s.due(NONE, "rank", 1);
        for (String row : new String[] {"b", "bbbbbbbbbbba", "c", "bbbbbbbbbbbc", "cbbbbbbbbbbb"}) {
            s.letters(row);
            s.due(NONE, "rank", 0);
        }
        s.letters("");
        s.due(NONE, "rank", 1);
        Subject.sentence("of its length (12 at most); NOT: it is longer");
        for (int n = 0; n <= 24; n++) {
            s.letters(Subject.times("b", n));
            s.due(n > 12 ? NOT : n % 2 == 1 ? NONE : n == 0 ? 0 : (1 << n - 1) - 1, "rank", 0);
            s.due(n > 12 ? NOT : NONE, "rank", 1);
            s.due(UNKNOWN, "rank", 2);
            s.due(UNKNOWN, "rank", -1);
        }
        s.letters("aaaaaaaaaaaa");
        s.due(13, "letter", A);
        s.due(NOT, "rank", 0);
        Subject.sentence("rank and of: one tells the other's");
        Subject t = Subject.with(3, 4, "0 first right to 0;0 a right to 0;0 b right to 0;0 last left to 1;1 b left to 2;2 a right to 2;2 b right to 2");
        // Rows of a and b that end in b: the first five letters are free.
        for (int i = 0; i < 32; i++) {
            StringBuilder row = new StringBuilder();
            for (int k = 0; k < 6; k++) {
                t.due(k == 5 ? B : i >> 4 - k & 1, "of", 0, 6, i, k);
                row.append(k == 5 ? 'b' : "ab".charAt(i >> 4 - k & 1));
            }
            t.letters(row.toString());
            t.due(i, "rank", 0);
        }
        t.due(NONE, "of", 0, 6, 32, 0);
    }

    // ---- 19 and 20: fewest, alike

    private static void fewestAndAlike() {
        Subject.sentence("FEWEST: how many are unlike so: STATES of the least reader that goes only to the right");
        Subject s = new Subject();
        s.due(1, "fewest", 0);
        s.tell(0, 1, 1, Readers.ONWARD);
        s.due(1, "fewest", 0);
        s.due(3, "drop", 0, 0, C);
        s.due(2, "fewest", 0);
        s.tell(1, 5, 16, Readers.BY_FIVE);
        s.due(5, "fewest", 1);
        s.due(15, "drop", 1, 3, C);
        s.due(6, "fewest", 1);
        s.tell(1, 5, 31, Readers.BY_FIVE);
        s.due(1, "fewest", 1);
        Subject.with(5, 11, Readers.DEEP).due(83, "fewest", 0);
        Subject.sentence("whatever LETTERS come behind both, it TAKES both or none");
        s.tell(1, 5, 16, Readers.BY_FIVE);
        s.letters(FULL_ROW);
        for (int i = 0; i <= 24; i += 3) {
            for (int j = 0; j <= 24; j++) {
                s.due((i - j) % 5 == 0 ? 1 : 0, "alike", 1, i, j);
            }
        }
        Subject.sentence("BEGINNINGS (rows of any length): 0 and 24 also");
        s.due(0, "alike", 1, 0, 24);
        s.due(1, "alike", 1, 24, 24);
        s.due(1, "alike", 1, 4, 24);
        s.due(1, "alike", 1, 0, 0);
        s.due(0, "alike", 0, 2, 3);
        s.due(1, "alike", 0, 3, 24);
        s.due(1, "alike", 0, 0, 2);
        Subject.sentence("OUTSIDE: not 0 .. how many it has");
        for (int bad : new int[] {25, -1, LEAST, GREATEST}) {
            s.due(OUTSIDE, "alike", 1, bad, 0);
            s.due(OUTSIDE, "alike", 1, 0, bad);
            s.due(OUTSIDE, "alike", 1, bad, bad);
            s.due(UNKNOWN, "alike", 2, bad, bad);
        }
        for (int n = 0; n < 24; n += 4) {
            s.letters(FULL_ROW.substring(0, n));
            s.due(n % 5 == 0 ? 1 : 0, "alike", 1, 0, n);
            s.due(OUTSIDE, "alike", 1, 0, n + 1);
            s.due(OUTSIDE, "alike", 1, n + 1, 0);
            s.due(OUTSIDE, "alike", 1, n + 1, n + 1);
        }
    }

    private static void alikeBehindTheLeftEnd() {
        Subject.sentence("BEGINNINGS are ALIKE: AROUND and STOPS, too, where neither is taken whatever comes behind");
        Subject s = Subject.with(2, 1, "0 first right to 0;0 a right to 0;0 b left to 1;1 a right to 0;1 first right to 1");
        s.letters("acab");
        // c stops it, b is gone around on: none of these can be taken any more.
        s.due(2, "fewest", 0);
        s.due(1, "alike", 0, 2, 4);
        s.due(0, "alike", 0, 1, 2);
        s.letters("abac");
        s.due(1, "alike", 0, 2, 4);
        s.due(1, "alike", 0, 0, 1);
        Subject.sentence("ALIKE by the rows that are taken, though what they do is unlike");
        Subject t = Subject.with(3, 4, Readers.BACKWARDS);
        t.letters("abc");
        t.due(1, "fewest", 0);
        t.due(1, "alike", 0, 0, 3);
    }

    private static void mostBeginnings() {
        Subject.sentence("What a BEGINNING does: 769 unlike things are not SPENT");
        Subject s = Subject.with(5, 12, Readers.BROAD);
        s.letters("abcabcabc");
        for (String call : new String[] {"fewest", "rank"}) {
            Subject.check(call, Math.min(NONE, s.ask(call, 0)), NONE);
        }
        for (String call : new String[] {"many", "shortest", "round"}) {
            Subject.check(call, Math.min(NONE, s.ask(call, 0, 0)), NONE);
        }
        Subject.check("of", Math.min(NONE, s.ask("of", 0, 0, 0, 0)), NONE);
        Subject.check("alike", Math.min(0, s.ask("alike", 0, 0, 9)), 0);
        Subject.check("parted", Math.min(NONE, s.ask("parted", -1)), NONE);
        s.due(SPENT, "kinds", 0);
    }

    // ---- 21 and 22: shortest, round

    private static void shortestRows() {
        Subject.sentence("SHORTEST: of the rows that it TAKES the shortest, the first of these");
        Subject s = Subject.with(1, 1, Readers.ONWARD);
        s.dueTold("", "shortest", 0);
        s.dueTold(null, "shortest", 1);
        // c is shorter than aa, though behind it in a list of words.
        s.tell(1, 3, 4, "0 first right to 0;0 a right to 1;1 a right to 2;0 c right to 2");
        s.dueTold("c", "shortest", 1);
        s.due(3, "drop", 1, 0, C);
        s.dueTold("aa", "shortest", 1);
        s.moves(1, "0 b right to 1;1 c right to 2");
        s.dueTold("aa", "shortest", 1);
        s.due(4, "drop", 1, 1, A);
        s.dueTold("ac", "shortest", 1);
        s.due(3, "drop", 1, 0, A);
        s.dueTold("bc", "shortest", 1);
        s.due(2, "drop", 1, 0, B);
        s.dueTold(null, "shortest", 1);
        Subject.sentence("SHORTEST: longer than any row that of and rank can tell");
        Subject t = Subject.with(5, 8, Readers.FAR_TAKEN);
        t.dueTold(Readers.FAR_ROW, "shortest", 0);
        t.due(0, "many", 0, 12);
        t.due(1, "many", 0, 13);
        t.letters(Readers.FAR_ROW);
        t.due(TAKES, "run", 0, 0);
        t.dueTold(Readers.FAR_ROW, "parted");
        bounds("shortest", t);
    }

    private static void roundRows() {
        Subject.sentence("ROUND likewise of those on which it goes AROUND");
        Subject s = Subject.with(2, 1, Readers.ONWARD);
        s.dueTold(null, "round", 0);
        s.dueTold(null, "round", 1);
        // Back on the last letter, and to the right end once more, where it was; without letters it stops.
        s.moves(0, "0 last left to 1;1 a right to 0;1 b right to 0;1 c right to 0");
        s.dueTold("a", "round", 0);
        s.due(7, "drop", 0, 1, A);
        s.dueTold("b", "round", 0);
        s.due(6, "drop", 0, 1, B);
        s.dueTold("c", "round", 0);
        s.due(5, "drop", 0, 1, C);
        s.dueTold(null, "round", 0);
        s.moves(0, "1 first right to 0");
        s.dueTold("", "round", 0);
        s.due(5, "drop", 0, 0, RIGHT_END);
        s.dueTold(null, "round", 0);
        Subject.sentence("ROUND: of 13 letters");
        Subject t = Subject.with(5, 27, Readers.FAR_AROUND);
        t.dueTold(Readers.FAR_AROUND_ROW, "round", 0);
        t.letters(Readers.FAR_AROUND_ROW);
        t.due(AROUND, "run", 0, 0);
        bounds("round", t);
    }

    private static void bounds(String call, Subject s) {
        Subject.sentence(call + ": OUTSIDE: k below -1");
        for (int k : new int[] {-2, -3, LEAST}) {
            s.due(OUTSIDE, call, 0, k);
            s.due(OUTSIDE, call, 1, k);
            s.due(UNKNOWN, call, 2, k);
            s.due(UNKNOWN, call, -1, k);
        }
    }

    // ---- 23: parted

    private static void partedRows() {
        Subject.sentence("PARTED: likewise of those that one READER TAKES, the other one not");
        Subject s = new Subject();
        s.dueTold(null, "parted");
        s.tell(0, 1, 1, Readers.ONWARD);
        s.dueTold("", "parted");
        s.tell(1, 1, 1, Readers.ONWARD);
        s.dueTold(null, "parted");
        s.due(3, "drop", 1, 0, B);
        s.dueTold("b", "parted");
        s.due(3, "drop", 0, 0, B);
        s.dueTold(null, "parted");
        s.due(2, "drop", 0, 0, A);
        s.dueTold("a", "parted");
        Subject.sentence("PARTED: what both do not take parts none, though one STOPS and the other one goes AROUND");
        s.tell(0, 1, 0, Readers.ONWARD + ";0 last left to 0");
        s.tell(1, 1, 0, Readers.ONWARD);
        s.dueTold(null, "parted");
        Subject.sentence("PARTED: the shortest, longer than each reader's states");
        s.tell(0, 5, 1, Readers.BY_FIVE);
        s.tell(1, 5, 17, Readers.BY_FIVE);
        s.dueTold("aaaa", "parted");
        s.due(15, "drop", 1, 1, A);
        s.dueTold("abaa", "parted");
        for (int k : new int[] {-2, LEAST}) {
            s.due(OUTSIDE, "parted", k);
        }
    }

    private static void fourThousandPairs() {
        Subject.sentence("SPENT also, if there are more than 4000 pairs of what BEGINNINGS do");
        Subject s = Subject.with(5, 23, Readers.PAIRS_4000);
        s.tell(1, 5, 8, Readers.PAIRS_4000_OTHER);
        s.dueTold("", "parted");
        Subject t = Subject.with(5, 23, Readers.PAIRS_4001);
        t.tell(1, 5, 3, Readers.PAIRS_4001_OTHER);
        for (int k : new int[] {-1, 0, 1, GREATEST}) {
            t.due(SPENT, "parted", k);
        }
        t.due(OUTSIDE, "parted", -2);
        Subject.sentence("SPENT (whether any parts both or not)");
        Subject u = Subject.with(5, 0, Readers.PAIRS_4000);
        u.tell(1, 5, 0, Readers.PAIRS_4000_OTHER);
        u.dueTold(null, "parted");
        Subject v = Subject.with(5, 0, Readers.PAIRS_4001);
        v.tell(1, 5, 0, Readers.PAIRS_4001_OTHER);
        v.due(SPENT, "parted", -1);
        v.due(SPENT, "parted", 0);
        Subject.sentence("SPENT pairs are no matter for what asks for one READER");
        Subject.check("fewest", Math.min(0, t.ask("fewest", 0)), 0);
        Subject.check("shortest", Math.min(NONE, t.ask("shortest", 1, -1)), NONE);
        Subject.sentence("PARTED of both as they are now");
        t.due(1, "reader", 1, 5, 3);
        Subject.check("fewer pairs", Math.min(NONE, t.ask("parted", -1)), NONE);
        t.moves(1, Readers.PAIRS_4001_OTHER);
        t.due(SPENT, "parted", -1);
    }

    // ---- 24 and 25: otherwise, most

    private static void otherwiseRows() {
        Subject.sentence("OTHERWISE: of those that both TAKE, but do not SAY the same on");
        Subject s = new Subject();
        for (int n = 0; n <= 7; n++) {
            s.dueTold(null, "otherwise", n);
        }
        s.tell(0, 1, 1, Readers.ECHO);
        s.tell(1, 1, 1, Readers.ECHO);
        s.dueTold(null, "otherwise", 7);
        Subject.sentence("lengths up to n: the empty row, too");
        s.moves(1, "0 first right to 0 say a");
        for (int n = 0; n <= 7; n++) {
            s.dueTold("", "otherwise", n);
        }
        Subject.sentence("not the same: another letter, one more, or one less");
        s.moves(1, "0 first right to 0;0 b right to 0 say c");
        s.dueTold(null, "otherwise", 0);
        s.dueTold("b", "otherwise", 1);
        s.moves(1, "0 b right to 0");
        s.dueTold("b", "otherwise", 7);
        s.moves(1, "0 b right to 0 say b;0 c right to 0 say a");
        s.moves(0, "0 c right to 0");
        s.dueTold("c", "otherwise", 7);
        Subject.sentence("those that both TAKE");
        s.due(3, "drop", 1, 0, C);
        s.dueTold(null, "otherwise", 7);
        s.moves(1, "0 c right to 0 say c");
        s.dueTold("c", "otherwise", 7);
        s.moves(1, "0 last left to 0");
        s.dueTold(null, "otherwise", 7);
        s.due(4, "drop", 1, 0, RIGHT_END);
        s.due(3, "drop", 0, 0, C);
        s.dueTold(null, "otherwise", 7);
    }

    /** Both take rows of a by their lengths, from five on by fives: the other one says a letter more. */
    private static void otherwiseLengths() {
        Subject.sentence("OTHERWISE for lengths up to n (0 .. 7)");
        for (int state = 0; state < 5; state++) {
            Subject s = Subject.with(5, 1 << state, Readers.BY_FIVE);
            s.tell(1, 5, 1 << state, Readers.BY_FIVE);
            s.moves(1, "4 b right to 0 say a;3 c right to 4 say a");
            String want = new String[] {"aaaab", "aaaaba", "aaaabaa", "", "aaac"}[state];
            for (int n = 0; n <= 7; n++) {
                boolean told = state != 3 && want.length() <= n;
                s.dueTold(told ? want : null, "otherwise", n);
            }
        }
        Subject s = new Subject();
        for (int bad : new int[] {-1, 8, LEAST, GREATEST}) {
            s.due(OUTSIDE, "otherwise", bad, -1);
        }
        for (int k : new int[] {-2, LEAST}) {
            for (int n = 0; n <= 7; n++) {
                s.due(OUTSIDE, "otherwise", n, k);
            }
        }
    }

    private static void mostMoves() {
        Subject.sentence("MOST of a length (0 .. 7)");
        Subject s = Subject.with(1, 1, Readers.ONWARD);
        s.tell(1, 3, 4, Readers.BACKWARDS);
        for (int n = 0; n <= 7; n++) {
            s.due(n + 1, "most", 0, n);
            s.due(3 * (n + 1), "most", 1, n);
        }
        for (int n : new int[] {-1, 8, LEAST, GREATEST}) {
            s.due(OUTSIDE, "most", 0, n);
            s.due(UNKNOWN, "most", 2, n);
        }
        Subject.sentence("NONE: on all of it it goes AROUND");
        s.moves(0, "0 last left to 0");
        for (int n = 0; n <= 7; n++) {
            s.due(NONE, "most", 0, n);
        }
        Subject.sentence("a row of it on which it does not go AROUND: where it STOPS, too");
        s.due(4, "drop", 0, 0, C);
        for (int n = 0; n <= 7; n++) {
            s.due(n == 0 ? NONE : n, "most", 0, n);
        }
        Subject.sentence("MOST: not by a row on which it goes AROUND, though it makes more MOVES there");
        Subject t = Subject.with(2, 0, "0 first right to 0;0 a right to 0;0 b right to 0;0 last left to 1;1 a left to 1;1 first right to 0");
        // Rows of a alone go around behind 2 n + 3 moves; a b first lets it come to the end and all the way back.
        for (int n = 0; n <= 7; n++) {
            t.due(n == 0 ? NONE : 2 * n + 1, "most", 0, n);
        }
        Subject.sentence("MOST without MOVES is 0");
        Subject u = new Subject();
        for (int n = 0; n <= 7; n++) {
            u.due(0, "most", 1, n);
        }
    }

    /** On a and b it stops at once, so that only the last row of a length is gone over to its end. */
    private static void lastRowOfLength() {
        Subject.sentence("MOST and OTHERWISE: the last row of a length, too");
        String onC = "0 first right to 0;0 c right to 1;1 c right to 2;2 c right to 3;3 c right to 4;4 c right to 0";
        for (int n = 1; n <= 7; n++) {
            Subject s = Subject.with(5, 1 << n % 5, onC);
            s.tell(1, 5, 1 << n % 5, onC);
            s.due(n + 1, "most", 0, n);
            s.moves(1, "0 c right to 1 say a");
            String shortest = Subject.times("c", n % 5 == 0 ? 5 : n % 5);
            for (int up = 0; up <= 7; up++) {
                s.dueTold(shortest.length() <= up ? shortest : null, "otherwise", up);
            }
        }
        for (int n : new int[] {6, 7}) {
            // By five and by four: both take n letters first.
            Subject s = Subject.with(5, 1 << n % 5, onC);
            s.tell(1, 4, 1 << n % 4, "0 first right to 0;0 c right to 1;1 c right to 2;2 c right to 3;3 c right to 0 say b");
            s.dueTold(Subject.times("c", n), "otherwise", 7);
            s.dueTold(null, "otherwise", n - 1);
        }
    }

    private static void otherwiseAnew() {
        Subject.sentence("OTHERWISE of both as they are now: a row ahead of the one before, and behind it");
        Subject s = Subject.with(1, 1, Readers.ECHO);
        s.tell(1, 1, 1, Readers.ECHO + ";0 c right to 0");
        s.dueTold("c", "otherwise", 7);
        s.moves(0, "0 a right to 0 say b");
        s.dueTold("a", "otherwise", 7);
        s.moves(1, "0 a right to 0 say b");
        s.dueTold("c", "otherwise", 7);
        s.dueTold(null, "otherwise", 0);
        s.dueTold("c", "otherwise", 1);
        s.moves(0, "0 first right to 0 say a");
        s.dueTold("", "otherwise", 0);
        s.due(1, "reader", 1, 1, 1);
        s.dueTold(null, "otherwise", 7);
    }

    private static void mostByRuns() {
        Subject.sentence("MOST: as many as run tells of the rows of the length");
        for (String moves : new String[] {Readers.ALL_PLACES, Readers.FAR_TAKEN, Readers.BROAD}) {
            Subject asked = Subject.with(5, 16, moves);
            for (int n = 0; n <= 6; n++) {
                asked.due(mostOfRuns(moves, n), "most", 0, n);
            }
        }
        Subject s = Subject.with(5, 16, Readers.ALL_PLACES);
        for (int n = 0; n <= 6; n += 2) {
            s.due(5 * (n + 2) - 1, "most", 0, n);
        }
    }

    private static int mostOfRuns(String moves, int n) {
        int best = NONE;
        Subject s = Subject.with(5, 16, moves);
        for (int row = 0; row < Math.pow(3, n); row++) {
            if (s.callsLeft() < 3) {
                s = Subject.with(5, 16, moves);
            }
            long bits = 0;
            for (int i = 0, rest = row; i < n; i++, rest /= 3) {
                bits |= (long) (rest % 3) << 2 * i;
            }
            s.row(bits, n);
            if (s.ask("run", 0, 0) != AROUND) {
                best = Math.max(best, s.ask("run", 0, 1));
            }
        }
        return best;
    }

    // ---- 26: count, and the 512 calls

    private static void counts() {
        Subject.sentence("0 LETTERS of THE ROW, 1 bytes of THE TEXT, 2 MOVES of READER 0, 3 of READER 1");
        Subject s = Subject.with(5, 0, Subject.allMoves(5));
        s.tell(1, 2, 0, Readers.EVEN);
        s.letters(FULL_ROW);
        s.text(Subject.times(" ", 160));
        int[] want = {24, 160, 25, 5};
        for (int what = 0; what < 4; what++) {
            s.due(want[what], "count", what);
        }
        for (int what : new int[] {-1, 4, LEAST, GREATEST}) {
            s.due(OUTSIDE, "count", what);
        }
    }

    private static void allCalls() {
        Subject.sentence("An object is used for at most 512 calls");
        Subject s = Subject.with(5, 8, Readers.FAR_TAKEN);
        s.tell(1, 5, 27, Readers.FAR_AROUND);
        for (int i = 0; s.callsLeft() > 12; i++) {
            s.due(19, "drop", 0, 4, 3);
            s.due(16, "drop", 1, 4, 3);
            s.due(NONE, "shortest", 0, 13);
            s.ask("many", 0, 10000);
            s.text("4 first right to 3");
            s.due(20, "moves", 0);
            s.due(13, "shortest", 0, -1);
            s.text("4first right to1");
            s.due(17, "moves", 1);
        }
        while (s.callsLeft() > 1) {
            s.due(13, "round", 1, -1);
        }
        s.due(1, "many", 0, 13);
    }

    public static void main(String[] args) {
        manyOfAllLengths();
        manyByFive();
        ofInOrder();
        ofBounds();
        ranks();
        fewestAndAlike();
        alikeBehindTheLeftEnd();
        mostBeginnings();
        shortestRows();
        roundRows();
        partedRows();
        fourThousandPairs();
        otherwiseRows();
        otherwiseLengths();
        mostMoves();
        lastRowOfLength();
        otherwiseAnew();
        mostByRuns();
        counts();
        allCalls();
        Subject.finish();
    }
}
