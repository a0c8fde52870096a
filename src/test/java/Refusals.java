import java.util.ArrayList;
import java.util.List;

/**
 * "Refused, and nothing changes: UNKNOWN, OUTSIDE, NOT, FULL, SPENT: the first of these that fits."
 * Every call with numbers on both sides of each bound, in all combinations, on objects in several conditions: what is
 * refused answers the first refusal that fits, what is not refused answers something else, and neither a refused call
 * nor one that only asks changes anything.
 */
public final class Refusals {
    private static final int NONE = -1, UNKNOWN = -2, OUTSIDE = -3, NOT = -4, FULL = -5, SPENT = -6;
    private static final int LEAST = Integer.MIN_VALUE, GREATEST = Integer.MAX_VALUE;
    private static final int PASSES = 0;
    /** Beside making an object and looking at all of it there is room for so many calls. */
    private static final int BATCH = 30;

    private static final int[] READER = {LEAST, -1, 0, 1, 2, GREATEST};
    private static final int[] STATE = {LEAST, -1, 0, 1, 2, 3, 4, 5, GREATEST};
    private static final int[] SIGN = {LEAST, -1, 0, 2, 3, 4, 5, GREATEST};
    private static final int[] THREE = {LEAST, -1, 0, 1, 2, 3, GREATEST};
    private static final int[] SIDE = {LEAST, -1, 0, 1, 2, GREATEST};
    private static final int[] FIVE = {LEAST, -1, 0, 4, 5, GREATEST};
    private static final int[] FROM_ZERO = {LEAST, -2, -1, 0, 1, GREATEST};
    private static final int[] FROM_BELOW = {LEAST, -3, -2, -1, 0, 1, GREATEST};
    private static final int[] TO_SEVEN = {LEAST, -1, 0, 7, 8, GREATEST};
    private static final int[] TO_TWELVE = {LEAST, -1, 0, 12, 13, GREATEST};
    private static final int[] TO_TEN_THOUSAND = {LEAST, -1, 0, 10000, 10001, GREATEST};
    private static final int[] IN_ROW = {LEAST, -1, 0, 1, 3, 4, 12, 13, 14, 24, 25, GREATEST};
    private static final int[] STATES = {LEAST, -1, 0, 1, 2, 3, 4, 5, 6, 32, 33, GREATEST};
    private static final int[] TAKES = {LEAST, -1, 0, 1, 2, 3, 4, 7, 8, 15, 16, 31, 32, 33, 64, 1 << 30, GREATEST};
    private static final int[] BYTES = {LEAST, -8, -1, 0, 1, 4, 5, 6, 7, 8, 9, 16, GREATEST};
    private static final int[] LENGTHS = {LEAST, -1, 0, 1, 23, 24, 25, 32, GREATEST};

    /** What an object was made to be, and what the document's refusals ask of it. */
    private enum Condition {
        AT_FIRST, ORDINARY, FILLED, FAULT_FOR_ONE, KINDS_SPENT, KINDS_SPENT_NO_ROW, PAIRS_SPENT;

        final int[] states = {1, 1};
        final String[] moves = {"", ""};
        final boolean[] fault = {true, true};
        final boolean[] spent = {false, false};
        boolean pairsSpent = false;
        int bytes = 0;
        int letters = 0;

        boolean hasMove(int reader, int state, int sign) {
            String[] words = {"a", "b", "c", "first", "last"};
            boolean known = state >= 0 && state < states[reader] && sign >= 0 && sign < words.length;
            return known && (";" + moves[reader]).contains(";" + state + " " + words[sign] + " ");
        }
    }

    private static void describe() {
        for (Condition c : Condition.values()) {
            Subject s = made(c);
            Subject.sentence("how the objects are made");
            Subject.check(c + " bytes", s.ask("count", 1), c.bytes);
            Subject.check(c + " letters", s.ask("count", 0), c.letters);
        }
    }

    /** A new object in a condition; the condition's own numbers are set, too. */
    private static Subject made(Condition c) {
        Subject s = new Subject();
        switch (c) {
            case AT_FIRST:
                break;
            case ORDINARY:
                told(s, c, 0, 2, 1, Readers.EVEN);
                told(s, c, 1, 3, 4, Readers.BACKWARDS);
                filled(s, c, "0 c left to 0 say b", "abb");
                goodFor(c, true, true);
                break;
            case FILLED:
                told(s, c, 0, 5, 31, Subject.allMoves(5));
                told(s, c, 1, 5, 16, Subject.allMoves(5));
                filled(s, c, "4 b left to 0 say b ;" + Subject.times(" ", 125) + "4 a right to 2", Subject.times("abc", 8));
                goodFor(c, true, true);
                break;
            case FAULT_FOR_ONE:
                told(s, c, 0, 5, 16, Readers.EVEN + ";4 last left to 4");
                told(s, c, 1, 4, 8, Readers.ONWARD);
                filled(s, c, Subject.times(" ", 141) + "0 c left to 4", Subject.times("abc", 4));
                goodFor(c, true, false);
                break;
            case KINDS_SPENT:
                told(s, c, 0, 4, 8, Readers.KINDS_801);
                told(s, c, 1, 2, 1, Readers.EVEN);
                filled(s, c, Subject.times(" ", 155), Subject.times("abc", 4) + "a");
                c.spent[0] = true;
                break;
            case KINDS_SPENT_NO_ROW:
                told(s, c, 1, 4, 8, Readers.KINDS_801);
                filled(s, c, Subject.times(" ", 152), "");
                c.spent[1] = true;
                break;
            default:
                told(s, c, 0, 5, 23, Readers.PAIRS_4001);
                told(s, c, 1, 5, 3, Readers.PAIRS_4001_OTHER);
                filled(s, c, Subject.times(" ", 153), "abca");
                c.spent[0] = true;
                c.spent[1] = true;
                c.pairsSpent = true;
                break;
        }
        return s;
    }

    private static void told(Subject s, Condition c, int reader, int states, int takes, String moves) {
        s.tell(reader, states, takes, moves);
        c.states[reader] = states;
        c.moves[reader] = moves;
    }

    private static void filled(Subject s, Condition c, String text, String row) {
        s.text(text);
        s.letters(row);
        c.bytes = text.length();
        c.letters = row.length();
    }

    private static void goodFor(Condition c, boolean zero, boolean one) {
        c.fault[0] = !zero;
        c.fault[1] = !one;
    }

    // ---- what the document refuses

    private static int first(boolean unknown, boolean outside, boolean not, boolean full, boolean spent) {
        return unknown ? UNKNOWN : outside ? OUTSIDE : not ? NOT : full ? FULL : spent ? SPENT : PASSES;
    }

    private static boolean noReader(int reader) {
        return reader != 0 && reader != 1;
    }

    private static boolean noState(Condition c, int reader, int state) {
        return noReader(reader) || state < 0 || state >= c.states[reader];
    }

    private static boolean off(int number, int least, int most) {
        return number < least || number > most;
    }

    private static boolean offBits(int states, int takes) {
        return off(states, 1, 5) || off(takes, 0, new int[] {0, 1, 3, 7, 15, 31}[Math.max(0, Math.min(5, states))]);
    }

    /** The refusal that is due, or PASSES. */
    private static int refusal(Condition c, String call, int[] w) {
        boolean known = w.length > 0 && !noReader(w[0]);
        boolean unknown = !known;
        switch (call) {
            case "reader": return first(unknown, offBits(w[1], w[2]), false, false, false);
            case "fault": return first(unknown, false, false, false, false);
            case "moves": return first(unknown, false, known && c.fault[w[0]], false, false);
            case "move": return first(noState(c, w[0], w[1]) || off(w[2], 0, 4), off(w[3], 0, 2), false, false, false);
            case "drop": return first(unknown || !c.hasMove(w[0], w[1], w[2]), false, false, false, false);
            case "letter": return first(off(w[0], 0, 2), false, false, c.letters == 24, false);
            case "run": return first(unknown, off(w[1], 0, 4), false, false, false);
            case "said": return first(unknown, w[1] < 0, false, false, false);
            case "table": return first(noState(c, w[0], w[2]), off(w[1], 0, 1), c.letters == 0, false, false);
            case "like": return first(unknown, w[1] < -1, c.letters == 0, false, known && c.spent[w[0]]);
            case "kinds": return first(unknown, false, false, false, known && c.spent[w[0]]);
            case "many": return first(unknown, off(w[1], 0, 10000), false, false, false);
            case "of": return first(unknown, off(w[1], 0, 12) || w[2] < 0 || w[3] < 0, false, false, false);
            case "rank": return first(unknown, false, c.letters > 12, false, false);
            case "fewest": return first(unknown, false, false, false, false);
            case "alike": return first(unknown, off(w[1], 0, c.letters) || off(w[2], 0, c.letters), false, false, false);
            case "shortest": return first(unknown, w[1] < -1, false, false, false);
            case "round": return first(unknown, w[1] < -1, false, false, false);
            case "parted": return first(false, w[0] < -1, false, false, c.pairsSpent);
            case "otherwise": return first(false, off(w[0], 0, 7) || w[1] < -1, false, false, false);
            case "most": return first(unknown, off(w[1], 0, 7), false, false, false);
            case "count": return first(false, off(w[0], 0, 3), false, false, false);
            default: throw new IllegalArgumentException(call);
        }
    }

    private static boolean changes(String call) {
        return call.equals("reader") || call.equals("moves") || call.equals("drop") || call.equals("letter");
    }

    // ---- trying all

    /** All combinations of the numbers that are told for each place. */
    private static List<int[]> combined(int[]... places) {
        List<int[]> all = new ArrayList<>();
        all.add(new int[0]);
        for (int[] numbers : places) {
            List<int[]> more = new ArrayList<>();
            for (int[] head : all) {
                for (int number : numbers) {
                    int[] with = java.util.Arrays.copyOf(head, head.length + 1);
                    with[head.length] = number;
                    more.add(with);
                }
            }
            all = more;
        }
        return all;
    }

    private static void answered(String name, int got, int want) {
        boolean fits = want == PASSES ? got >= NONE : got == want;
        Subject.check(name + (want == PASSES ? " is not refused, but" : ""), got, fits ? got : want);
    }

    private static void tryCall(Condition c, String pristine, String call, int[]... places) {
        List<int[]> asks = new ArrayList<>();
        for (int[] with : combined(places)) {
            if (changes(call) && refusal(c, call, with) == PASSES) {
                answered(c + " " + Subject.named(call, with), made(c).ask(call, with), PASSES);
            } else {
                asks.add(with);
            }
        }
        for (int from = 0; from < asks.size(); from += BATCH) {
            Subject s = made(c);
            List<int[]> batch = asks.subList(from, Math.min(asks.size(), from + BATCH));
            for (int[] with : batch) {
                answered(c + " " + Subject.named(call, with), s.ask(call, with), refusal(c, call, with));
            }
            String last = Subject.named(call, batch.get(batch.size() - 1));
            Subject.checkSame(c + ": what is seen behind calls up to " + last, s.seen(), pristine);
        }
    }

    private static void tryWrites(Condition c, String pristine) {
        for (long bytes : new long[] {0L, -1L, Long.MIN_VALUE, Long.MAX_VALUE, 0x2020202020202020L}) {
            Subject s = made(c);
            for (int n : BYTES) {
                int want = first(false, off(n, 1, 8), false, c.bytes + n > 160, false);
                String name = c + " write(" + bytes + ", " + n + ")";
                if (want == PASSES) {
                    Subject.check(name, made(c).write(bytes, n), c.bytes + n);
                } else {
                    Subject.check(name, s.write(bytes, n), want);
                }
            }
            Subject.checkSame(c + ": what is seen behind refused writes", s.seen(), pristine);
        }
    }

    private static void tryRows(Condition c, String pristine) {
        for (int three = 0; three < 24; three += 1 + three / 3) {
            Subject s = made(c);
            for (int n : LENGTHS) {
                int want = off(n, 0, 24) ? OUTSIDE : three < n ? UNKNOWN : PASSES;
                String name = c + " row with a 3 at " + three + " of " + n;
                long bits = 0b100100L | 3L << 2 * three;
                Subject.check(name, (want == PASSES ? made(c) : s).row(bits, n), want == PASSES ? 1 : want);
            }
            Subject.checkSame(c + ": what is seen behind refused rows", s.seen(), pristine);
        }
    }

    private static void tryAll(Condition c) {
        String pristine = made(c).seen();
        tryCall(c, pristine, "reader", READER, STATES, TAKES);
        tryWrites(c, pristine);
        tryCall(c, pristine, "fault", READER);
        tryCall(c, pristine, "moves", READER);
        tryCall(c, pristine, "move", READER, STATE, SIGN, THREE);
        tryCall(c, pristine, "drop", READER, STATE, SIGN);
        tryCall(c, pristine, "letter", THREE);
        tryRows(c, pristine);
        tryCall(c, pristine, "run", READER, FIVE);
        tryCall(c, pristine, "said", READER, FROM_ZERO);
        tryCall(c, pristine, "table", READER, SIDE, STATE);
        tryCall(c, pristine, "like", READER, FROM_BELOW);
        tryCall(c, pristine, "kinds", READER);
        tryCall(c, pristine, "many", READER, TO_TEN_THOUSAND);
        tryCall(c, pristine, "of", READER, TO_TWELVE, FROM_ZERO, FROM_ZERO);
        tryCall(c, pristine, "rank", READER);
        tryCall(c, pristine, "fewest", READER);
        tryCall(c, pristine, "alike", READER, IN_ROW, IN_ROW);
        tryCall(c, pristine, "shortest", READER, FROM_BELOW);
        tryCall(c, pristine, "round", READER, FROM_BELOW);
        tryCall(c, pristine, "parted", FROM_BELOW);
        tryCall(c, pristine, "otherwise", TO_SEVEN, FROM_BELOW);
        tryCall(c, pristine, "most", READER, TO_SEVEN);
        tryCall(c, pristine, "count", new int[] {LEAST, -1, 0, 1, 2, 3, 4, GREATEST});
    }

    public static void main(String[] args) {
        describe();
        Subject.sentence("Refused, and nothing changes .. the first of these that fits");
        for (Condition c : Condition.values()) {
            tryAll(c);
        }
        Subject.finish();
    }
}
