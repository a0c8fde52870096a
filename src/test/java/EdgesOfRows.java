/** The sentences of the document about THE ROW, runs over it, and tables (promises 9 to 15), each at its bounds. */
public final class EdgesOfRows {
    private static final int NONE = -1, UNKNOWN = -2, OUTSIDE = -3, NOT = -4, FULL = -5, SPENT = -6;
    private static final int LEAST = Integer.MIN_VALUE, GREATEST = Integer.MAX_VALUE;
    private static final int A = 0, B = 1, C = 2;
    private static final int STOPS = 0, TAKES = 1, AROUND = 2;
    private static final String FULL_ROW = "abcabcabcabcabcabcabcabc";

    private static void dueRun(Subject s, int reader, int... want) {
        for (int what = 0; what < want.length; what++) {
            s.due(want[what], "run", reader, what);
        }
    }

    private static void dueSaid(Subject s, int reader, String want) {
        s.due(want.length(), "run", reader, 4);
        for (int k = 0; k < want.length(); k++) {
            s.due(want.charAt(k) - 'a', "said", reader, k);
        }
        s.due(NONE, "said", reader, want.length());
    }

    // ---- 9 and 10: letter, row

    private static void lettersOneByOne() {
        Subject.sentence("A LETTER (0 .. 2) more of THE ROW: how many");
        Subject s = Subject.with(1, 1, Readers.ECHO);
        for (int i = 0; i < 24; i++) {
            s.due(i + 1, "letter", (i * i + i / 5) % 3);
            s.due(i + 1, "count", 0);
        }
        for (int i = 0; i < 24; i++) {
            s.due((i * i + i / 5) % 3, "said", 0, i);
        }
        Subject.sentence("THE ROW has 24 LETTERS at most: FULL");
        for (int letter = 0; letter < 3; letter++) {
            s.due(FULL, "letter", letter);
        }
        Subject.sentence("UNKNOWN; FULL: the first that fits");
        for (int letter : new int[] {3, -1, 4, LEAST, GREATEST}) {
            s.due(UNKNOWN, "letter", letter);
            new Subject().due(UNKNOWN, "letter", letter);
        }
        s.due(24, "count", 0);
        s.due(24, "run", 0, 4);
        for (int i = 0; i < 24; i++) {
            s.due((i * i + i / 5) % 3, "said", 0, i);
        }
        s.letters(FULL_ROW.substring(1));
        s.due(24, "letter", A);
        s.due(FULL, "letter", A);
        s.letters("");
        s.due(1, "letter", A);
    }

    private static void rowsOfAllLengths() {
        Subject.sentence("THE ROW becomes n LETTERS (0 .. 24), LETTER i row >> 2 i & 3");
        for (int n = 0; n <= 24; n++) {
            Subject s = Subject.with(1, 1, Readers.ECHO);
            s.letters("cccc");
            s.letters(FULL_ROW.substring(24 - n));
            s.due(n, "count", 0);
            dueSaid(s, 0, FULL_ROW.substring(24 - n));
            Subject.sentence("n LETTERS: bits behind them are no part of it");
            s.dueRow(1, Subject.bits(FULL_ROW.substring(24 - n)) | -1L << 2 * n, n);
            dueSaid(s, 0, FULL_ROW.substring(24 - n));
            if (n < 24) {
                s.due(n + 1, "letter", B);
                dueSaid(s, 0, FULL_ROW.substring(24 - n) + "b");
            }
        }
        Subject.sentence("n LETTERS (0 .. 24): OUTSIDE, ahead of a LETTER 3");
        Subject s = Subject.with(1, 1, Readers.ECHO);
        s.letters("cab");
        for (int n : new int[] {25, 26, 32, -1, LEAST, GREATEST}) {
            s.dueRow(OUTSIDE, 0L, n);
            s.dueRow(OUTSIDE, -1L, n);
            s.dueRow(OUTSIDE, 3L, n);
        }
        dueSaid(s, 0, "cab");
    }

    private static void letterThree() {
        Subject.sentence("UNKNOWN: a LETTER 3");
        for (int n = 1; n <= 24; n++) {
            Subject s = Subject.with(1, 1, Readers.ECHO);
            s.letters("cabcab");
            for (int i = 0; i < n; i++) {
                s.dueRow(UNKNOWN, 3L << 2 * i, n);
            }
            s.dueRow(UNKNOWN, -1L, n);
            s.dueRow(UNKNOWN, Long.MAX_VALUE, n);
            dueSaid(s, 0, "cabcab");
            s.dueRow(1, 3L << 2 * n, n);
            s.due(n, "count", 0);
        }
    }

    // ---- 11 and 12: run, said

    private static void places() {
        Subject.sentence("A ROW stands on places 1 .. n, the LEFT end on 0, the RIGHT end on n + 1");
        for (int n = 0; n <= 24; n++) {
            Subject s = Subject.with(1, 1, Readers.ONWARD);
            s.letters(FULL_ROW.substring(0, n));
            dueRun(s, 0, TAKES, n + 1, n + 1, 0, 0);
            dueRun(s, 1, STOPS, 0, 0, 0, 0);
            s.moves(1, "0 first right to 0");
            dueRun(s, 1, STOPS, 1, 1, 0, 0);
        }
        Subject.sentence("the last LETTER is on n, the RIGHT end behind it");
        for (int n = 1; n <= 24; n++) {
            Subject s = Subject.with(1, 1, "0 first right to 0;0 a right to 0;0 last left to 0");
            s.letters(Subject.times("a", n - 1) + "b");
            dueRun(s, 0, STOPS, n, n, 0, 0);
        }
    }

    private static void beginsInZero() {
        Subject.sentence("A READER begins in STATE 0 on place 0");
        Subject s = Subject.with(2, 3, "1 first right to 1;1 a right to 1;0 a right to 0");
        s.letters("a");
        dueRun(s, 0, STOPS, 0, 0, 0, 0);
        s.moves(0, "0 first right to 1");
        dueRun(s, 0, TAKES, 2, 2, 1, 0);
    }

    private static void whereItTakes() {
        Subject.sentence("It TAKES the ROW, if it STOPS on the RIGHT end in a STATE that TAKES");
        Subject.sentence("not on the LEFT end");
        Subject s = Subject.with(2, 3, "0 first right to 0;0 a left to 1");
        s.letters("a");
        dueRun(s, 0, STOPS, 2, 0, 1, 0);
        dueRun(Subject.with(1, 1, "0 a right to 0"), 0, STOPS, 0, 0, 0, 0);
        Subject.sentence("not on a LETTER");
        s.letters("b");
        dueRun(s, 0, STOPS, 1, 1, 0, 0);
        s.letters("ab");
        s.moves(0, "1 first right to 1;1 a right to 1");
        dueRun(s, 0, STOPS, 4, 2, 1, 0);
        Subject.sentence("not in a STATE that does not take");
        for (int takes = 0; takes < 8; takes++) {
            Subject t = Subject.with(3, takes, "0 first right to 1;1 a right to 2");
            t.letters("a");
            dueRun(t, 0, takes >= 4 ? TAKES : STOPS, 2, 2, 2, 0);
        }
        Subject.sentence("only where it STOPS: it goes through the RIGHT end in a state that takes, and stops within");
        Subject u = Subject.with(2, 3, "0 first right to 0;0 a right to 0;0 last left to 1");
        u.letters("a");
        dueRun(u, 0, STOPS, 3, 1, 1, 0);
        u.moves(0, "1 a right to 1");
        dueRun(u, 0, TAKES, 4, 2, 1, 0);
    }

    private static void goingAround() {
        Subject.sentence("It goes AROUND, if it comes to a place in a STATE in which it was there before");
        Subject s = Subject.with(1, 1, "0 first right to 0 say a;0 last left to 0 say b");
        dueRun(s, 0, AROUND, 2, 0, 0, 2);
        dueSaid(s, 0, "ab");
        Subject.sentence("not the same STATE on another place");
        Subject t = Subject.with(1, 1, Readers.ONWARD);
        t.letters("aa");
        dueRun(t, 0, TAKES, 3, 3, 0, 0);
        Subject.sentence("not the same place in another STATE");
        Subject u = Subject.with(3, 4, "0 first right to 0;0 a right to 0;0 last left to 1;1 a left to 1;1 first right to 2;2 a right to 2");
        u.letters("aaa");
        dueRun(u, 0, TAKES, 12, 4, 2, 0);
        Subject.sentence("how many MOVES till then, with that by which it comes where it was");
        u.moves(0, "2 last left to 2");
        dueRun(u, 0, AROUND, 13, 3, 2, 0);
        u.letters("");
        dueRun(u, 0, STOPS, 4, 0, 2, 0);
        u.moves(0, "2 first right to 2");
        dueRun(u, 0, AROUND, 5, 1, 2, 0);
        Subject.sentence("on the RIGHT end, too: back to it in a STATE in which it was there");
        Subject v = Subject.with(2, 3, "0 first right to 0;0 a right to 0;0 last left to 1;1 a right to 0");
        v.letters("a");
        dueRun(v, 0, AROUND, 4, 2, 0, 0);
        Subject.sentence("on the LEFT end, too");
        Subject w = Subject.with(1, 1, "0 first right to 0 say c;0 b left to 0");
        w.letters("b");
        dueRun(w, 0, AROUND, 2, 0, 0, 1);
        dueSaid(w, 0, "c");
    }

    private static void manyMoves() {
        Subject.sentence("how many MOVES: 24 LETTERS, to and fro in five STATES");
        Subject s = Subject.with(5, 16, "0 first right to 0;0 a right to 0;0 last left to 1;1 a left to 1 say b;1 first right to 2");
        s.moves(0, "2 a right to 2;2 last left to 3;3 a left to 3;3 first right to 4;4 a right to 4 say c");
        s.letters(Subject.times("a", 24));
        dueRun(s, 0, TAKES, 125, 25, 4, 48);
        dueSaid(s, 0, Subject.times("b", 24) + Subject.times("c", 24));
        Subject.sentence("how many MOVES, all of which say a LETTER");
        Subject t = Subject.with(5, 16, "0 first right to 0 say a;0 a right to 0 say a;0 last left to 1 say a;1 a left to 1 say a");
        t.moves(0, "1 first right to 2 say a;2 a right to 2 say a;2 last left to 3 say a;3 a left to 3 say a;3 first right to 4 say a");
        t.moves(0, "4 a right to 4 say a;4 last left to 4 say b");
        t.letters(Subject.times("a", 24));
        dueRun(t, 0, AROUND, 126, 24, 4, 126);
        dueSaid(t, 0, Subject.times("a", 125) + "b");
        Subject.sentence("how many MOVES: to and fro on each two LETTERS");
        Subject u = Subject.with(5, 16, "0 first right to 0;0 a right to 1;1 b left to 2;2 a right to 3;3 b left to 4;4 a right to 4;4 b right to 0");
        u.letters(Subject.times("ab", 12));
        dueRun(u, 0, STOPS, 1 + 12 * 6, 25, 0, 0);
    }

    private static void allPlacesInAllStates() {
        Subject.sentence("how many MOVES: on all 26 places in all five STATES, and no more can be");
        Subject s = Subject.with(5, 16, Readers.ALL_PLACES);
        s.letters(Subject.times("ab", 12));
        dueRun(s, 0, TAKES, 129, 25, 4, 129);
        s.due(A, "said", 0, 128);
        s.due(NONE, "said", 0, 129);
        s.moves(0, "4 last left to 0 say c");
        dueRun(s, 0, AROUND, 130, 24, 0, 130);
        s.due(A, "said", 0, 128);
        s.due(C, "said", 0, 129);
        s.due(NONE, "said", 0, 130);
        Subject.sentence("the same on fewer places");
        for (int n = 0; n <= 24; n += 2) {
            s.letters(Subject.times("ab", n / 2));
            dueRun(s, 0, AROUND, 5 * (n + 2), n, 0, 5 * (n + 2));
        }
    }

    private static void sayings() {
        Subject.sentence("what it SAYS (a LETTER, or nothing)");
        Subject s = Subject.with(1, 1, "0 first right to 0;0 a right to 0 say c;0 b right to 0;0 c right to 0 say a");
        s.letters("abcab");
        dueSaid(s, 0, "cac");
        Subject.sentence("LETTER k (from 0) of what a READER SAID; NONE");
        s.due(NONE, "said", 0, 3);
        s.due(NONE, "said", 0, GREATEST);
        s.due(NONE, "said", 1, 0);
        s.letters("bb");
        s.due(NONE, "said", 0, 0);
        s.due(0, "run", 0, 4);
        Subject.sentence("OUTSIDE: k below 0");
        s.due(OUTSIDE, "said", 0, -1);
        s.due(OUTSIDE, "said", 0, LEAST);
        Subject.sentence("what it said where it STOPS within, and at the ends");
        Subject t = Subject.with(2, 0, "0 first right to 0 say b;0 a right to 0 say a;0 last left to 1 say c");
        t.letters("aa");
        dueRun(t, 0, STOPS, 4, 2, 1, 4);
        dueSaid(t, 0, "baac");
        t.letters("ab");
        dueSaid(t, 0, "ba");
    }

    private static void runsAreNew() {
        Subject.sentence("A READER on THE ROW: as both are now");
        Subject s = Subject.with(2, 1, Readers.EVEN);
        s.letters("b");
        dueRun(s, 0, STOPS, 2, 2, 1, 0);
        s.due(2, "letter", B);
        dueRun(s, 0, TAKES, 3, 3, 0, 0);
        s.due(4, "drop", 0, 1, B);
        dueRun(s, 0, STOPS, 2, 2, 1, 0);
        s.moves(0, "1 b right to 1 say b");
        dueRun(s, 0, STOPS, 3, 3, 1, 1);
        s.due(1, "reader", 0, 1, 1);
        dueRun(s, 0, STOPS, 0, 0, 0, 0);
    }

    // ---- 13: table

    private static void dueTable(Subject s, int reader, String row, int[] left, int[] right) {
        s.letters(row);
        for (int state = 0; state < left.length; state++) {
            s.due(left[state], "table", reader, 0, state);
            s.due(right[state], "table", reader, 1, state);
        }
    }

    private static void tableOfOneLetter() {
        Subject.sentence("A TABLE of a row of one LETTER or more: 2 q, 2 q + 1, 10");
        for (int q = 0; q < 5; q++) {
            Subject s = Subject.with(5, 0, "0 a left to " + q + ";1 a right to " + q + ";4 a left to " + q);
            int[] want = {2 * q, 2 * q + 1, 10, 10, 2 * q};
            dueTable(s, 0, "a", want, want);
            int[] none = {10, 10, 10, 10, 10};
            dueTable(s, 0, "b", none, none);
        }
        Subject.sentence("NOT: THE ROW has no LETTERS");
        Subject s = Subject.with(2, 1, Readers.EVEN);
        s.due(NOT, "table", 0, 0, 0);
        s.due(NOT, "table", 0, 1, 1);
        s.due(UNKNOWN, "table", 0, 1, 2);
        s.due(OUTSIDE, "table", 0, 2, 1);
        s.due(UNKNOWN, "table", 0, 2, 2);
        s.due(1, "letter", B);
        s.due(3, "table", 0, 0, 0);
        s.letters("");
        s.due(NOT, "table", 0, 0, 0);
    }

    private static void tableAround() {
        Subject.sentence("11: it goes AROUND within");
        Subject s = Subject.with(2, 0, "0 a right to 1;1 b left to 0;1 a right to 1;0 b right to 0");
        dueTable(s, 0, "ab", new int[] {11, 11}, new int[] {1, 11});
        dueTable(s, 0, "ba", new int[] {1 + 2, 0}, new int[] {3, 3});
        dueTable(s, 0, "aab", new int[] {11, 11}, new int[] {1, 11});
        Subject.sentence("AROUND within, not over the ends");
        s.moves(0, "0 first right to 0;1 first right to 1;0 last left to 0;1 last left to 1");
        dueTable(s, 0, "b", new int[] {1, 0}, new int[] {1, 0});
        Subject.sentence("10: it STOPS within, not on the ends");
        Subject t = Subject.with(2, 3, "0 a right to 0;0 b left to 1;1 a left to 1");
        dueTable(t, 0, "aab", new int[] {2, 2}, new int[] {2, 10});
        dueTable(t, 0, "ca", new int[] {10, 10}, new int[] {1, 10});
    }

    private static void tableSides() {
        Subject.sentence("with which it comes in to its first LETTER (side 0), or to its last one (side 1)");
        Subject s = Subject.with(3, 0, "0 a right to 0;0 b right to 1;0 c left to 2;1 a left to 2;1 b left to 1;1 c right to 0;2 a left to 0");
        // abc: 0 goes right, becomes 1 on b and 0 behind c; 1 leaves to the left at once, and so does 2.
        dueTable(s, 0, "abc", new int[] {1, 4, 0}, new int[] {10, 1, 10});
        dueTable(s, 0, "cab", new int[] {4, 3, 10}, new int[] {3, 10, 10});
        dueTable(s, 0, FULL_ROW, new int[] {1, 4, 0}, new int[] {10, 1, 10});
        Subject.sentence("over 24 LETTERS, to the right and to the left");
        Subject t = Subject.with(2, 0, "0 a right to 0;1 a left to 1;0 b left to 1;1 b right to 0");
        dueTable(t, 0, Subject.times("a", 24), new int[] {1, 2}, new int[] {1, 2});
        dueTable(t, 0, Subject.times("a", 23) + "b", new int[] {2, 2}, new int[] {2, 1});
        dueTable(t, 0, "b" + Subject.times("a", 23), new int[] {2, 1}, new int[] {1, 1});
    }

    // ---- 14 and 15: like, kinds

    private static void dueLike(Subject s, String row, String want) {
        s.letters(row);
        s.dueTold(want, "like", 0);
    }

    private static void likeRows() {
        Subject.sentence("The shortest row, the first of several, that has the TABLE of THE ROW");
        Subject s = Subject.with(1, 0, "0 b right to 0;0 c right to 0");
        dueLike(s, "c", "b");
        dueLike(s, "cbbc", "b");
        dueLike(s, "a", "a");
        // It stops on a: from the left at the first one, from the right only if it is last.
        dueLike(s, "ca", "a");
        dueLike(s, "ac", "ab");
        dueLike(s, "bcacb", "ab");
        Subject.sentence("without MOVES all rows have the TABLE of a");
        Subject t = new Subject();
        t.ask("reader", 0, 5, 31);
        dueLike(t, FULL_ROW.substring(2), "a");
        Subject.sentence("like: of a row of 24 LETTERS, a shortest row of 12");
        Subject u = Subject.with(5, 1, "0 first right to 0;0 a right to 1;1 a right to 0;2 a right to 2;3 a right to 3;4 a right to 4;"
            + "0 b right to 1;1 b right to 2;2 b right to 3;3 b right to 4;4 b right to 0");
        dueLike(u, "baabbbabbabababbaabbaaba", "bababbbababa");
        dueLike(u, "bababbbababa", "bababbbababa");
        dueLike(u, Subject.times("b", 24), "bbbb");
        dueLike(u, Subject.times("a", 24), "aa");
        Subject.sentence("NOT: THE ROW has no LETTERS");
        u.letters("");
        u.due(NOT, "like", 0, -1);
        u.due(NOT, "like", 0, 0);
        u.due(OUTSIDE, "like", 0, -2);
        u.due(UNKNOWN, "like", 2, -2);
    }

    private static void eightHundredKinds() {
        Subject.sentence("KINDS: how many unlike TABLES; SPENT: more than 800");
        Subject s = Subject.with(4, 13, Readers.KINDS_800);
        s.tell(1, 4, 8, Readers.KINDS_801);
        s.due(800, "kinds", 0);
        s.due(SPENT, "kinds", 1);
        Subject.sentence("like: SPENT, and what is ahead of it");
        s.due(NOT, "like", 1, -1);
        s.letters("a");
        s.due(1, "like", 0, -1);
        s.due(SPENT, "like", 1, -1);
        s.due(SPENT, "like", 1, 0);
        s.due(SPENT, "like", 1, GREATEST);
        s.due(OUTSIDE, "like", 1, -2);
        s.due(UNKNOWN, "like", 2, -2);
        Subject.sentence("SPENT of KINDS is no matter for what asks for beginnings or one row");
        Subject.check("fewest", Math.min(0, s.ask("fewest", 1)), 0);
        Subject.check("table", Math.min(0, s.ask("table", 1, 0, 0)), 0);
        Subject.check("many", Math.min(0, s.ask("many", 1, 5)), 0);
        Subject.sentence("KINDS of a READER as it is now");
        s.due(14, "drop", 1, 0, A);
        Subject.check("fewer", s.ask("kinds", 1) > 0 ? 1 : 0, 1);
        s.moves(1, "0 a right to 3");
        s.due(SPENT, "kinds", 1);
        s.due(1, "reader", 1, 4, 8);
        s.due(1, "kinds", 1);
        s.due(800, "kinds", 0);
    }

    private static void fewKinds() {
        Subject.sentence("KINDS of all rows, of one LETTER or more");
        Subject s = new Subject();
        s.due(1, "kinds", 0);
        Subject.sentence("KINDS: TABLES of the three letters");
        Subject t = Subject.with(1, 0, "0 a right to 0");
        // It stops on b and c: from the left nowhere, on both sides, or from the left alone (a, b, ba).
        t.due(3, "kinds", 0);
        t.moves(0, "0 b right to 0;0 c right to 0");
        t.due(1, "kinds", 0);
        Subject.sentence("KINDS: what takes, what it says and moves by the ends are no part of a TABLE");
        Subject u = Subject.with(1, 1, Readers.ECHO + ";0 last left to 0");
        u.due(1, "kinds", 0);
        Subject.sentence("KINDS: what leaves from the one side, and what from the other one");
        Subject v = Subject.with(1, 0, "0 a right to 0;0 b left to 0;0 c left to 0");
        // a and b alone; ab is gone around on from both sides, ba from none; aba and bab from one of them.
        v.due(6, "kinds", 0);
    }

    public static void main(String[] args) {
        lettersOneByOne();
        rowsOfAllLengths();
        letterThree();
        places();
        beginsInZero();
        whereItTakes();
        goingAround();
        manyMoves();
        allPlacesInAllStates();
        sayings();
        runsAreNew();
        tableOfOneLetter();
        tableAround();
        tableSides();
        likeRows();
        eightHundredKinds();
        fewKinds();
        Subject.finish();
    }
}
