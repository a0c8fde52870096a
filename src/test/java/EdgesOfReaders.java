/** The sentences of the document about readers, their moves and THE TEXT (promises 1 to 8), each at its bounds. */
public final class EdgesOfReaders {
    private static final int NONE = -1, UNKNOWN = -2, OUTSIDE = -3, NOT = -4, FULL = -5;
    private static final int LEAST = Integer.MIN_VALUE, GREATEST = Integer.MAX_VALUE;
    private static final int A = 0, B = 1, C = 2, LEFT_END = 3, RIGHT_END = 4;
    private static final String GOOD = "0 a right to 0";
    private static final int[] ONE_TO_FIVE = {1, 2, 3, 4, 5};

    // ---- 1: a new object

    private static void atFirst() {
        Subject.sentence("READERS as at first, no LETTERS");
        Subject s = new Subject();
        for (int what = 0; what < 4; what++) {
            s.due(0, "count", what);
        }
        s.due(0, "erase");
        Subject.sentence("STATES (1 .. 5; one at first)");
        for (int reader = 0; reader < 2; reader++) {
            for (int sign = 0; sign < 5; sign++) {
                s.due(NONE, "move", reader, 0, sign, 0);
                s.due(UNKNOWN, "move", reader, 1, sign, 0);
            }
        }
        Subject.sentence("STATES that TAKE (bits; none at first)");
        for (int reader = 0; reader < 2; reader++) {
            s.moves(reader, "0 first right to 0");
            s.due(1, "run", reader, 2);
            s.due(0, "run", reader, 0);
            s.due(0, "many", reader, 0);
        }
    }

    private static void ofItsOwn() {
        Subject.sentence("a new object: what another one was told is not told to it");
        Subject s = Subject.with(5, 31, Subject.allMoves(5));
        s.text(GOOD);
        s.letters("abc");
        s.ask("kinds", 0);
        s.ask("parted", -1);
        String untouched = new Subject().seen();
        Subject other = new Subject();
        s.ask("reader", 1, 5, 31);
        s.ask("letter", A);
        Subject.checkSame("another object", other.seen(), untouched);
    }

    // ---- 2: reader

    private static void readersAreTwo() {
        Subject.sentence("READERS are 0 and 1");
        for (int reader : new int[] {0, 1}) {
            Subject s = new Subject();
            s.due(1, "reader", reader, 2, 3);
            s.due(NONE, "move", reader, 1, A, 0);
            s.due(UNKNOWN, "move", 1 - reader, 1, A, 0);
        }
        for (int reader : new int[] {2, 3, -1, LEAST, GREATEST}) {
            new Subject().due(UNKNOWN, "reader", reader, 1, 0);
        }
    }

    private static void oneToFiveStates() {
        Subject.sentence("STATES 0 .. n - 1 (1 .. 5)");
        for (int states : ONE_TO_FIVE) {
            Subject s = new Subject();
            s.due(1, "reader", 1, states, 0);
            for (int state = 0; state < 7; state++) {
                s.due(state < states ? NONE : UNKNOWN, "move", 1, state, RIGHT_END, 2);
            }
        }
        for (int states : new int[] {0, 6, 7, -1, LEAST, GREATEST}) {
            new Subject().due(OUTSIDE, "reader", 0, states, 0);
        }
    }

    private static void bitsOfNoStates() {
        Subject.sentence("OUTSIDE: also bits of no STATES");
        for (int states : ONE_TO_FIVE) {
            Subject s = new Subject();
            int all = (1 << states) - 1;
            for (int takes = 0; takes <= all; takes++) {
                s.due(1, "reader", 0, states, takes);
            }
            for (int high = states; high < 32; high++) {
                s.due(OUTSIDE, "reader", 0, states, 1 << high);
                s.due(OUTSIDE, "reader", 0, states, 1 << high | 1);
            }
            s.due(OUTSIDE, "reader", 0, states, -1);
            s.due(OUTSIDE, "reader", 0, states, ~all);
        }
    }

    private static void eachStateTakes() {
        Subject.sentence("STATES that TAKE (bits)");
        for (int states : ONE_TO_FIVE) {
            for (int takes = 0; takes < 1 << states; takes++) {
                Subject s = new Subject();
                s.due(1, "reader", 0, states, takes);
                for (int state = 0; state < states; state++) {
                    s.moves(0, "0 first right to " + state);
                    s.due(takes >> state & 1, "run", 0, 0);
                    s.due(state, "run", 0, 3);
                }
            }
        }
    }

    private static void withoutMoves() {
        Subject.sentence("A READER becomes so, without MOVES");
        Subject s = Subject.with(5, 31, Subject.allMoves(5));
        s.tell(1, 2, 1, Readers.EVEN);
        s.text(GOOD);
        s.letters("ab");
        s.due(25, "count", 2);
        s.due(1, "reader", 0, 5, 31);
        s.due(0, "count", 2);
        for (int state = 0; state < 5; state++) {
            for (int sign = 0; sign < 5; sign++) {
                s.due(NONE, "move", 0, state, sign, 0);
            }
        }
        Subject.sentence("A READER becomes so: the other one, THE TEXT and THE ROW stay");
        s.due(5, "count", 3);
        s.due(GOOD.length(), "count", 1);
        s.due(2, "count", 0);
        s.due(0, "run", 1, 0);
        s.letters("bb");
        s.due(1, "run", 1, 0);
    }

    private static void noMovesComeBack() {
        Subject.sentence("without MOVES: those of states that it had do not come back");
        Subject s = Subject.with(5, 31, Subject.allMoves(5));
        s.due(1, "reader", 0, 1, 0);
        s.due(UNKNOWN, "move", 0, 4, A, 0);
        s.due(UNKNOWN, "drop", 0, 4, A);
        s.due(1, "reader", 0, 5, 0);
        for (int state = 0; state < 5; state++) {
            s.due(NONE, "move", 0, state, A, 0);
            s.due(UNKNOWN, "drop", 0, state, A);
        }
        s.due(0, "count", 2);
    }

    // ---- 3 and 4: write, erase

    private static void oneToEightBytes() {
        Subject.sentence("n (1 .. 8) bytes more: how many it has");
        for (int n = 1; n <= 8; n++) {
            Subject s = new Subject();
            for (int i = 1; i <= 160 / n; i++) {
                s.dueWrite(i * n, 0L, n);
            }
            int left = 160 - 160 / n * n;
            Subject.sentence("THE TEXT is a row of bytes, 160 at most: FULL");
            for (int more = left + 1; more <= 8; more++) {
                s.dueWrite(FULL, 0L, more);
            }
            s.due(160 - left, "count", 1);
            if (left > 0) {
                s.dueWrite(160, 0L, left);
            }
            s.dueWrite(FULL, 0L, 1);
            s.due(160, "count", 1);
            Subject.sentence("n (1 .. 8): OUTSIDE, also ahead of FULL");
            for (int bad : new int[] {0, 9, -1, 16, LEAST, GREATEST}) {
                s.dueWrite(OUTSIDE, 0L, bad);
                new Subject().dueWrite(OUTSIDE, 0L, bad);
            }
            s.due(160, "erase");
        }
    }

    private static void piecesOfAllSizes() {
        Subject.sentence("n bytes more of THE TEXT");
        for (int n = 1; n <= 8; n++) {
            Subject s = new Subject();
            s.text("0 b right to 0 say c;0 last left to 0", n);
            s.due(NONE, "fault", 0);
            s.due(2, "moves", 0);
            s.due(C, "move", 0, 0, B, 2);
            s.due(NONE, "move", 0, 0, RIGHT_END, 2);
        }
    }

    private static void byteOfEachPlace() {
        Subject.sentence("byte i being bytes >> 8 i & 255");
        for (int i = 0; i < 8; i++) {
            for (int sign : new int[] {'!', 127, 128, 160, 255}) {
                Subject s = new Subject();
                s.text(GOOD);
                long blanks = 0x2020202020202020L & ~(255L << 8 * i);
                s.dueWrite(GOOD.length() + 8, blanks | (long) sign << 8 * i, 8);
                s.due(GOOD.length() + i, "fault", 0);
            }
        }
        Subject.sentence("n bytes: those beyond are no part of it");
        for (int n = 1; n < 8; n++) {
            Subject s = new Subject();
            s.text(GOOD);
            s.dueWrite(GOOD.length() + n, 0x2020202020202020L & (1L << 8 * n) - 1 | -1L << 8 * n, n);
            s.due(NONE, "fault", 0);
            s.dueWrite(GOOD.length() + n + 1, ';', 1);
            s.due(GOOD.length() + n + 1, "fault", 0);
        }
    }

    private static void nothingOfWhatIsFull() {
        Subject.sentence("FULL, and nothing changes");
        Subject s = new Subject();
        s.text(GOOD + Subject.times(" ", 146));
        s.due(160, "count", 1);
        s.dueWrite(FULL, ';', 1);
        s.due(NONE, "fault", 0);
        s.due(160, "erase");
        s.text(GOOD + Subject.times(" ", 145));
        s.dueWrite(FULL, ';' | ' ' << 8, 2);
        s.due(NONE, "fault", 0);
        s.due(159, "count", 1);
        s.dueWrite(160, ';', 1);
        s.due(160, "fault", 0);
    }

    private static void erasing() {
        Subject.sentence("THE TEXT is empty: how many bytes it had");
        Subject s = new Subject();
        s.due(0, "erase");
        for (int n : new int[] {1, 8, 14, 159, 160}) {
            s.text(Subject.times(" ", n));
            s.due(n, "count", 1);
            s.due(n, "erase");
            s.due(0, "count", 1);
            s.due(0, "fault", 0);
            s.due(NOT, "moves", 0);
            s.due(0, "erase");
        }
        s.text(GOOD);
        s.due(NONE, "fault", 0);
        s.due(1, "moves", 0);
        Subject.sentence("erase: readers and THE ROW stay");
        s.letters("ab");
        s.text(GOOD);
        s.due(GOOD.length(), "erase");
        s.due(1, "count", 2);
        s.due(2, "count", 0);
    }

    // ---- 5: fault

    private static void dueFault(int states, String text, int want) {
        Subject s = new Subject();
        s.due(1, "reader", 1, states, 0);
        s.text(text);
        Subject.check("fault of <" + text + "> for " + states + " states", s.ask("fault", 1), want);
        s.due(text.length(), "count", 1);
        s.due(0, "count", 3);
        Subject.check("moves of <" + text + ">", s.ask("moves", 1) == NOT ? 1 : 0, want == NONE ? 0 : 1);
        s.due(want == NONE ? 0 : text.length(), "count", 1);
    }

    private static void endTooSoon() {
        Subject.sentence("A FAULT is at the end, if it comes too soon");
        dueFault(1, "", 0);
        dueFault(1, " ", 1);
        dueFault(1, Subject.times(" ", 160), 160);
        dueFault(1, GOOD + ";", GOOD.length() + 1);
        dueFault(1, GOOD + " ; ", GOOD.length() + 3);
        Subject.sentence("A FAULT: each beginning of a text");
        String text = "1 first right to 0 say b;0 last left to 1;1 c left to 0;0 a right to 1 say a";
        for (int n = 0; n <= text.length(); n++) {
            dueFault(2, text.substring(0, n), faultOfBeginning(text, n));
        }
    }

    /** Of a good text with one blank between words: words that are cut can't stand, and moves that are cut end too soon. */
    private static int faultOfBeginning(String text, int n) {
        String told = text.substring(0, n);
        boolean cutsWord = n < text.length() && isSmall(text.charAt(n)) && n > 0 && isSmall(text.charAt(n - 1));
        if (cutsWord) {
            return Math.max(told.lastIndexOf(' '), told.lastIndexOf(';')) + 1;
        }
        String move = told.substring(told.lastIndexOf(';') + 1).trim();
        return move.matches(".* to \\d( say [abc])?") ? NONE : n;
    }

    private static boolean isSmall(char c) {
        return c >= 'a' && c <= 'z';
    }

    private static void numbersOfStates() {
        Subject.sentence("a number that is no such STATE");
        for (int states : ONE_TO_FIVE) {
            for (int digit = 0; digit < 10; digit++) {
                dueFault(states, digit + " a right to 0", digit < states ? NONE : 0);
                dueFault(states, "0 a right to " + digit, digit < states ? NONE : 13);
                dueFault(states, GOOD + ";" + digit + " b left to 0", digit < states ? NONE : 15);
            }
        }
        Subject.sentence("or of more than one digit also");
        for (String number : new String[] {"00", "01", "10", "04", "000", "40", "4294967296", "256", "0000000000000000000000"}) {
            dueFault(5, number + " a right to 0", 0);
            dueFault(5, "0 a right to " + number, 13);
            dueFault(5, "0 a right to " + number + " say a", 13);
        }
        Subject.sentence("a STATE of the READER for which it is asked");
        Subject s = new Subject();
        s.ask("reader", 0, 4, 0);
        s.ask("reader", 1, 5, 0);
        s.text("3 a right to 4");
        s.due(13, "fault", 0);
        s.due(NONE, "fault", 1);
        s.due(NOT, "moves", 0);
        s.due(1, "reader", 0, 5, 0);
        s.due(NONE, "fault", 0);
        s.due(1, "reader", 1, 3, 0);
        s.due(0, "fault", 1);
        s.due(1, "moves", 0);
    }

    private static void stepsAtEnds() {
        Subject.sentence("not left at the LEFT end, not right at the RIGHT end");
        dueFault(1, "0 first left to 0", 8);
        dueFault(1, "0 first right to 0", NONE);
        dueFault(1, "0 last right to 0", 7);
        dueFault(1, "0 last left to 0", NONE);
        for (String letter : new String[] {"a", "b", "c"}) {
            dueFault(1, "0 " + letter + " left to 0", NONE);
            dueFault(1, "0 " + letter + " right to 0", NONE);
        }
        dueFault(1, "0 first left", 8);
        dueFault(1, "0 last right", 7);
        dueFault(1, GOOD + ";0 last right to 0", 22);
        dueFault(1, GOOD + ";0 first left to 0", 23);
        // A sign of a move before is of no account.
        dueFault(1, "0 first right to 0;0 a left to 0;0 last left to 0;0 b right to 0", NONE);
    }

    private static void firstFault() {
        Subject.sentence("at the first TOKEN that cannot stand there");
        dueFault(1, "0 a right to 1;1", 13);
        dueFault(1, "0 d rihgt", 2);
        dueFault(1, "0 first left to 9", 8);
        dueFault(1, GOOD + ";" + GOOD + ";x;!", 30);
        dueFault(1, "0 0", 2);
        dueFault(1, "0 a a", 4);
        dueFault(1, "0 a right 0", 10);
        dueFault(1, GOOD + " 0", 15);
        dueFault(1, GOOD + " say say", 19);
        dueFault(1, GOOD + " say a a", 21);
        dueFault(1, GOOD + " say a say", 21);
        dueFault(1, GOOD + " say ;", 19);
        dueFault(1, GOOD + " to", 15);
        dueFault(1, ";", 0);
        dueFault(1, ";" + GOOD, 0);
        dueFault(1, GOOD + ";;" + GOOD, 15);
        dueFault(1, GOOD + " " + GOOD, 15);
    }

    private static void tokens() {
        Subject.sentence("a TOKEN (a row of small letters, a row of digits, any other byte)");
        dueFault(1, "0aright to 0", 1);
        dueFault(1, "0 a rightto 0", 4);
        dueFault(1, "0 a right to0", NONE);
        dueFault(1, "0a right to0say b;0b left to0", NONE);
        dueFault(1, "0a right to0sayb", 12);
        dueFault(1, "0 aB right to 0", 3);
        dueFault(1, "0 B right to 0", 2);
        dueFault(1, "0 a Right to 0", 4);
        dueFault(1, "0 a r ight to 0", 4);
        dueFault(1, "0 a right t o 0", 10);
        dueFault(1, "0 f1rst right to 0", 2);
        dueFault(1, "!!", 0);
        dueFault(1, GOOD + "!!", 14);
        dueFault(1, GOOD + ".0", 14);
        dueFault(1, "-0 a right to 0", 0);
        dueFault(1, "+0 a right to 0", 0);
        Subject.sentence("blanks (32) between");
        dueFault(1, "   0   a   right   to   0   say   c   ;   0   b   left   to   0   ", NONE);
        dueFault(1, Subject.times(" ", 145) + "0 a right to 0 ", NONE);
        for (char other : new char[] {'\t', '\n', '\r', 0, 160, 31, 33}) {
            dueFault(1, "0" + other + "a right to 0", 1);
            dueFault(1, GOOD + other, 14);
            dueFault(1, other + GOOD, 0);
        }
    }

    private static void eachByteInEachPlace() {
        Subject.sentence("each byte in the place of each token");
        String[] words = {"0", "a", "right", "to", "0", "say", "b", ";", "1", "first", "right", "to", "1"};
        String[] fits = {"01", "abc", "", "", "01", ";", "abc", ";", "01", "abc", "", "", "01"};
        for (int t = 0; t < words.length; t++) {
            StringBuilder head = new StringBuilder();
            StringBuilder tail = new StringBuilder();
            for (int i = 0; i < words.length; i++) {
                (i < t ? head : tail).append(i == t ? "" : " " + words[i] + " ");
            }
            for (char sign = 0; sign < 256; sign++) {
                Subject s = new Subject();
                s.ask("reader", 0, 2, 0);
                s.text(head.toString() + sign + tail);
                boolean stands = sign == ' ' || fits[t].indexOf(sign) >= 0;
                int got = s.ask("fault", 0);
                Subject.check("fault there for byte " + (int) sign + " as token " + t, got == head.length() ? 1 : 0, stands ? 0 : 1);
                Subject.check("no fault ahead", got == NONE || got >= head.length() ? 1 : 0, 1);
            }
        }
        Subject.sentence("each byte behind a good text");
        for (char sign = 0; sign < 256; sign++) {
            boolean digit = sign >= '0' && sign <= '9';
            dueFault(1, GOOD + sign, sign == ' ' ? NONE : sign == ';' ? 15 : digit ? 13 : 14);
        }
    }

    private static void wordsAsWritten() {
        Subject.sentence("As written here");
        for (String sign : new String[] {"firs", "firstt", "f", "lasts", "las", "l", "aa", "ab", "d", "z", "left", "to", "say", "0"}) {
            dueFault(1, "0 " + sign + " right to 0", 2);
        }
        for (String step : new String[] {"lef", "leftt", "l", "righ", "rights", "r", "rightleft", "to", "a", "first", "up"}) {
            dueFault(1, "0 a " + step + " to 0", 4);
        }
        for (String to : new String[] {"t", "too", "ot", "say", "a", "right", "0"}) {
            dueFault(1, "0 a right " + to + " 0", 10);
        }
        for (String say : new String[] {"sa", "says", "s", "to", "a", "yas"}) {
            dueFault(1, GOOD + " " + say + " a", 15);
        }
        for (String letter : new String[] {"d", "aa", "z", "first", "last", "0", "say", "nothing"}) {
            dueFault(1, GOOD + " say " + letter, 19);
        }
        for (String letter : new String[] {"a", "b", "c"}) {
            dueFault(1, "0 " + letter + " right to 0", NONE);
            dueFault(1, GOOD + " say " + letter, NONE);
        }
    }

    private static void fullText() {
        Subject.sentence("THE TEXT, 160 at most: the place of a FAULT in a full one");
        String most = GOOD + Subject.times(" ", 145);
        dueFault(1, most + ";", 160);
        dueFault(1, most + "x", 159);
        dueFault(1, most + " ", NONE);
        dueFault(1, Subject.times("0a left to0;", 13) + "0a l", 159);
        dueFault(1, Subject.times("0a left to0;", 13), 156);
        dueFault(1, Subject.times(";", 160), 0);
        dueFault(1, Subject.times("0", 160), 0);
        dueFault(1, Subject.times("a", 160), 0);
        dueFault(1, Subject.times(" ", 159) + "0", 160);
        dueFault(1, Subject.times(" ", 159) + "1", 159);
    }

    // ---- 6 to 8: moves, move, drop

    private static void oneForStateAndSign() {
        Subject.sentence("for a STATE and a SIGN one at most");
        Subject s = Subject.with(5, 0, Subject.allMoves(5));
        s.due(25, "count", 2);
        s.moves(0, Subject.allMoves(5));
        s.due(25, "count", 2);
        Subject.sentence("one for a STATE and SIGN in the place of that which was");
        s.text("3 b left to 4 say c");
        s.due(25, "moves", 0);
        s.due(4, "move", 0, 3, B, 0);
        s.due(0, "move", 0, 3, B, 1);
        s.due(C, "move", 0, 3, B, 2);
        s.text("3 b right to 1");
        s.due(25, "moves", 0);
        s.due(1, "move", 0, 3, B, 0);
        s.due(1, "move", 0, 3, B, 1);
        s.due(NONE, "move", 0, 3, B, 2);
        s.due(4, "move", 0, 3, A, 0);
        s.due(4, "move", 0, 3, C, 0);
        Subject.sentence("the same STATE and SIGN twice in one text");
        Subject t = new Subject();
        t.text("0 a left to 0 say a;0 a right to 0 say b;0 a left to 0");
        t.due(1, "moves", 0);
        t.due(0, "move", 0, 0, A, 1);
        t.due(NONE, "move", 0, 0, A, 2);
    }

    private static void signsAndLettersInOrder() {
        Subject.sentence("G one of a b c first last (SIGNS 0 .. 4), L one of a b c");
        String[] signs = {"a", "b", "c", "first", "last"};
        for (int sign = 0; sign < 5; sign++) {
            for (int letter = 0; letter < 3; letter++) {
                Subject s = new Subject();
                s.text("0 " + signs[sign] + (sign == RIGHT_END ? " left" : " right") + " to 0 say " + signs[letter]);
                s.due(1, "moves", 0);
                for (int other = 0; other < 5; other++) {
                    s.due(other == sign ? 0 : NONE, "move", 0, 0, other, 0);
                    s.due(other == sign ? sign == RIGHT_END ? 0 : 1 : NONE, "move", 0, 0, other, 1);
                    s.due(other == sign ? letter : NONE, "move", 0, 0, other, 2);
                }
            }
        }
    }

    private static void textOfMoves() {
        Subject.sentence("THE TEXT's MOVES are a READER's, and THE TEXT is empty then: how many it has");
        Subject s = new Subject();
        s.ask("reader", 1, 5, 0);
        s.text(Subject.times("0a left to0;", 8) + "0b left to0;1a left to0;2a left to0;3a left to0;4a left to4");
        s.due(6, "moves", 1);
        s.due(0, "count", 1);
        s.due(6, "count", 3);
        s.due(0, "count", 2);
        s.due(0, "fault", 1);
        s.due(NOT, "moves", 1);
        s.text("4 last left to 3");
        s.due(7, "moves", 1);
        Subject.sentence("NOT: a FAULT");
        s.text("3 last left to 3;3 c right to 5");
        s.due(NOT, "moves", 1);
        s.due(31, "count", 1);
        s.due(NONE, "move", 1, 3, RIGHT_END, 0);
        s.due(7, "count", 3);
        s.due(30, "fault", 1);
        s.due(31, "erase");
        s.text("0 a right to 4;");
        s.due(NOT, "moves", 1);
        s.due(0, "move", 1, 0, A, 1);
        s.due(15, "count", 1);
        s.text("0 c right to 1");
        s.due(8, "moves", 1);
        s.due(4, "move", 1, 0, A, 0);
        s.due(1, "move", 1, 0, C, 0);
    }

    private static void moveTold() {
        Subject.sentence("Of the MOVE: to, STEP (0 left, 1 right), what it SAYS (NONE: nothing)");
        for (int reader = 0; reader < 2; reader++) {
            for (int to = 0; to < 5; to++) {
                Subject s = new Subject();
                s.tell(reader, 5, 0, "4 a left to " + to + ";" + to + " b right to 4 say c;" + to + " c left to 0 say a");
                s.due(to, "move", reader, 4, A, 0);
                s.due(0, "move", reader, 4, A, 1);
                s.due(NONE, "move", reader, 4, A, 2);
                s.due(4, "move", reader, to, B, 0);
                s.due(1, "move", reader, to, B, 1);
                s.due(C, "move", reader, to, B, 2);
                s.due(0, "move", reader, to, C, 0);
                s.due(0, "move", reader, to, C, 1);
                s.due(A, "move", reader, to, C, 2);
                Subject.sentence("NONE: there is no MOVE");
                for (int what = 0; what < 3; what++) {
                    s.due(NONE, "move", reader, to, LEFT_END, what);
                    s.due(NONE, "move", reader, 0, RIGHT_END, what);
                }
                s.due(3, "count", 2 + reader);
                s.due(0, "count", 3 - reader);
            }
        }
    }

    private static void droppingAll() {
        Subject.sentence("There is no MOVE of a STATE by a SIGN any more: how many are left");
        for (int reader = 0; reader < 2; reader++) {
            Subject s = new Subject();
            s.tell(reader, 5, 0, Subject.allMoves(5));
            for (int i = 0; i < 25; i++) {
                int cell = i * 7 % 25;
                s.due((cell / 5 + 1) % 5, "move", reader, cell / 5, cell % 5, 0);
                s.due(24 - i, "drop", reader, cell / 5, cell % 5);
                s.due(NONE, "move", reader, cell / 5, cell % 5, 0);
                s.due(UNKNOWN, "drop", reader, cell / 5, cell % 5);
                s.due(24 - i, "count", 2 + reader);
            }
            Subject.sentence("drop and moves again");
            s.moves(reader, "2 a left to 1");
            s.due(1, "count", 2 + reader);
            s.due(UNKNOWN, "drop", 1 - reader, 2, A);
            s.due(UNKNOWN, "drop", reader, 2, B);
            s.due(UNKNOWN, "drop", reader, 1, A);
            s.due(0, "drop", reader, 2, A);
        }
    }

    public static void main(String[] args) {
        atFirst();
        ofItsOwn();
        readersAreTwo();
        oneToFiveStates();
        bitsOfNoStates();
        eachStateTakes();
        withoutMoves();
        noMovesComeBack();
        oneToEightBytes();
        piecesOfAllSizes();
        byteOfEachPlace();
        nothingOfWhatIsFull();
        erasing();
        endTooSoon();
        numbersOfStates();
        stepsAtEnds();
        firstFault();
        tokens();
        eachByteInEachPlace();
        wordsAsWritten();
        fullText();
        oneForStateAndSign();
        signsAndLettersInOrder();
        textOfMoves();
        moveTold();
        droppingAll();
        Subject.finish();
    }
}
