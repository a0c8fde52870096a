import java.util.ArrayDeque;
import java.util.ArrayList;
import java.util.Arrays;
import java.util.HashMap;
import java.util.List;
import java.util.Map;
import java.util.Random;

/**
 * Whole runs of 512 calls on one object, all calls mixed, good and bad numbers, readers that change between: each answer
 * against a second model. It shares no code with the class or with AgainstPlain (whoever wrote it had read both), and
 * knows what it searched out by the whole reader that it comes from, and so can't tell what was true before a change.
 */
public final class RunsOfCalls {
    private static final int NONE = -1, UNKNOWN = -2, OUTSIDE = -3, NOT = -4, FULL = -5, SPENT = -6;
    private static final String[] SIGNS = {"a", "b", "c", "first", "last"};
    private static final long PRIME = 1000000007L;

    // ---- the model: readers

    /** A reader told as a text: states, takes, and "to step say" or "" of each state and sign. */
    private static final class Machine {
        int states = 1, takes = 0;
        String[][] moves = new String[5][5];

        int size() {
            int size = 0;
            for (String[] ofState : moves) {
                for (String move : ofState) {
                    size += move == null ? 0 : 1;
                }
            }
            return size;
        }

        String told() {
            return states + "/" + takes + "/" + Arrays.deepToString(moves);
        }
    }

    /** What came of stepping: where it ended, after which steps, and whether it stopped, went around or left. */
    private record Steps(char how, int place, int state, int moves, String said) { }

    /** Steps on signs, a character each ('<' and '>' are the ends), from a place in a state, till it stops or leaves. */
    private static Steps step(Machine m, String signs, int from, int first) {
        int place = from, state = first, moves = 0;
        StringBuilder said = new StringBuilder();
        List<String> was = new ArrayList<>();
        while (place >= 0 && place < signs.length()) {
            String here = place + "," + state;
            if (was.contains(here)) {
                return new Steps('o', place, state, moves, said.toString());
            }
            was.add(here);
            String move = m.moves[state]["abc<>".indexOf(signs.charAt(place))];
            if (move == null) {
                return new Steps('.', place, state, moves, said.toString());
            }
            state = move.charAt(0) - '0';
            place += move.charAt(1) == 'r' ? 1 : -1;
            said.append(move.substring(2));
            moves++;
        }
        return new Steps(place < 0 ? 'l' : 'r', place, state, moves, said.toString());
    }

    private static Steps onRow(Machine m, String row) {
        return step(m, "<" + row + ">", 0, 0);
    }

    /** 0 stops, 1 takes, 2 around. */
    private static int ending(Machine m, String row) {
        Steps s = onRow(m, row);
        boolean takes = s.how == '.' && s.place == row.length() + 1 && (m.takes & 1 << s.state) != 0;
        return s.how == 'o' ? 2 : takes ? 1 : 0;
    }

    private static int entry(Machine m, String row, int side, int state) {
        Steps s = step(m, row, side == 0 ? 0 : row.length() - 1, state);
        switch (s.how) {
            case 'l': return 2 * s.state;
            case 'r': return 2 * s.state + 1;
            case '.': return 10;
            default: return 11;
        }
    }

    private static String table(Machine m, String row) {
        StringBuilder all = new StringBuilder();
        for (int state = 0; state < m.states; state++) {
            all.append(entry(m, row, 0, state)).append(' ').append(entry(m, row, 1, state)).append(' ');
        }
        return all.toString();
    }

    private static String leaving(Steps s) {
        return s.how == 'r' ? "r" + s.state : "" + s.how;
    }

    private static String doing(Machine m, String row) {
        String signs = "<" + row;
        StringBuilder all = new StringBuilder(leaving(step(m, signs, 0, 0)));
        for (int state = 0; state < m.states; state++) {
            all.append(' ').append(leaving(step(m, signs, row.length(), state)));
        }
        return all.toString();
    }

    // ---- the model: searches; what is kept here is kept by all that it comes from

    private static final Map<String, Map<String, String>> TABLES = new HashMap<>();
    private static final Map<String, Beginnings> BEGINNINGS = new HashMap<>();

    /** The first row of each table, or nothing at all if there are more than 800. */
    private static Map<String, String> tables(Machine m) {
        return TABLES.computeIfAbsent(m.told(), told -> {
            Map<String, String> first = new HashMap<>();
            ArrayDeque<String> rows = new ArrayDeque<>(List.of("a", "b", "c"));
            while (!rows.isEmpty()) {
                String row = rows.poll();
                if (first.putIfAbsent(table(m, row), row) == null) {
                    rows.addAll(List.of(row + "a", row + "b", row + "c"));
                }
                if (first.size() > 800) {
                    return Map.of();
                }
            }
            return first;
        });
    }

    /** Beginnings that do unlike things, by the first row of each; what a letter more leads to; which are alike. */
    private static final class Beginnings {
        final List<String> rows = new ArrayList<>();
        final Map<String, Integer> index = new HashMap<>();
        int[][] next;
        int[] end;
        int[] group;
        int groups;
    }

    private static Beginnings beginnings(Machine m) {
        return BEGINNINGS.computeIfAbsent(m.told(), told -> {
            Beginnings b = new Beginnings();
            ArrayDeque<String> rows = new ArrayDeque<>(List.of(""));
            while (!rows.isEmpty()) {
                String row = rows.poll();
                if (b.index.putIfAbsent(doing(m, row), b.rows.size()) == null) {
                    b.rows.add(row);
                    rows.addAll(List.of(row + "a", row + "b", row + "c"));
                }
            }
            int size = b.rows.size();
            b.next = new int[size][3];
            b.end = new int[size];
            for (int i = 0; i < size; i++) {
                b.end[i] = ending(m, b.rows.get(i));
                for (int c = 0; c < 3; c++) {
                    b.next[i][c] = b.index.get(doing(m, b.rows.get(i) + "abc".charAt(c)));
                }
            }
            group(b);
            return b;
        });
    }

    /** Alike for rows behind of up to some length, which grows till it parts no more. */
    private static void group(Beginnings b) {
        int size = b.rows.size();
        b.group = new int[size];
        b.groups = 1;
        int before = 0;
        while (before != b.groups) {
            before = b.groups;
            Map<String, Integer> names = new HashMap<>();
            int[] fresh = new int[size];
            for (int i = 0; i < size; i++) {
                String name = (b.end[i] == 1) + " " + b.group[b.next[i][0]] + " " + b.group[b.next[i][1]] + " "
                    + b.group[b.next[i][2]];
                fresh[i] = names.computeIfAbsent(name, none -> names.size());
            }
            b.group = fresh;
            b.groups = names.size();
        }
    }

    /** How many rows of a length lead from a beginning to one that is taken. */
    private static long[] ways(Beginnings b, int length) {
        long[] ways = new long[b.rows.size()];
        for (int i = 0; i < ways.length; i++) {
            ways[i] = b.end[i] == 1 ? 1 : 0;
        }
        for (int n = 0; n < length; n++) {
            long[] longer = new long[ways.length];
            for (int i = 0; i < ways.length; i++) {
                longer[i] = (ways[b.next[i][0]] + ways[b.next[i][1]] + ways[b.next[i][2]]) % PRIME;
            }
            ways = longer;
        }
        return ways;
    }

    private static int behind(Beginnings b, String row) {
        int at = 0;
        for (int i = 0; i < row.length(); i++) {
            at = b.next[at][row.charAt(i) - 'a'];
        }
        return at;
    }

    private static List<String> allRows(int length) {
        List<String> rows = List.of("");
        for (int n = 0; n < length; n++) {
            List<String> longer = new ArrayList<>();
            for (String row : rows) {
                longer.addAll(List.of(row + "a", row + "b", row + "c"));
            }
            rows = longer;
        }
        return rows;
    }

    private static String firstEnding(Beginnings b, int end) {
        for (int i = 0; i < b.end.length; i++) {
            if (b.end[i] == end) {
                return b.rows.get(i);
            }
        }
        return null;
    }

    private static int told(String row, int k) {
        return row == null || k >= row.length() ? NONE : k == -1 ? row.length() : row.charAt(k) - 'a';
    }

    // ---- the model: texts

    private static List<String> tokens(String text, List<Integer> places) {
        List<String> tokens = new ArrayList<>();
        java.util.regex.Matcher found = java.util.regex.Pattern.compile("[a-z]+|[0-9]+|[^ ]", java.util.regex.Pattern.DOTALL)
            .matcher(text);
        while (found.find()) {
            tokens.add(found.group());
            places.add(found.start());
        }
        return tokens;
    }

    /** The fault, or NONE; then 'into', if there is one, has the moves. */
    private static int read(String text, Machine m, Machine into) {
        List<Integer> places = new ArrayList<>();
        List<String> tokens = tokens(text, places);
        places.add(text.length());
        tokens.add("the end");
        String numbers = "01234".substring(0, m.states);
        for (int at = 0;; at++) {
            int move = at;
            String sign = at + 1 < tokens.size() ? tokens.get(at + 1) : "";
            String steps = sign.equals("first") ? "right" : sign.equals("last") ? "left" : "left right";
            String[] may = {numbers.replaceAll("(.)", "$1 "), "a b c first last", steps, "to", numbers.replaceAll("(.)", "$1 ")};
            for (String words : may) {
                if (!Arrays.asList(words.trim().split(" ")).contains(tokens.get(at))) {
                    return places.get(at);
                }
                at++;
            }
            String say = "";
            if (tokens.get(at).equals("say")) {
                say = tokens.get(at + 1);
                if (!say.matches("[abc]")) {
                    return places.get(at + 1);
                }
                at += 2;
            }
            if (into != null) {
                int state = Integer.parseInt(tokens.get(move));
                into.moves[state][Arrays.asList(SIGNS).indexOf(sign)] = tokens.get(move + 4) + tokens.get(move + 2).charAt(0) + say;
            }
            if (tokens.get(at).equals("the end")) {
                return NONE;
            }
            if (!tokens.get(at).equals(";")) {
                return places.get(at);
            }
        }
    }

    // ---- the model: the calls

    private final Machine[] machines = {new Machine(), new Machine()};
    private final StringBuilder text = new StringBuilder();
    private final StringBuilder row = new StringBuilder();

    private static boolean in(long number, long least, long most) {
        return number >= least && number <= most;
    }

    private int answer(String call, long[] with) {
        int p = with.length > 0 ? (int) with[0] : 0;
        switch (call) {
            case "write": return write(with[0], (int) with[1]);
            case "erase": int had = text.length(); text.setLength(0); return had;
            case "letter": return !in(p, 0, 2) ? UNKNOWN : row.length() == 24 ? FULL : row.append("abc".charAt(p)).length();
            case "row": return row(with[0], (int) with[1]);
            case "parted": return p < -1 ? OUTSIDE : parted(p);
            case "otherwise": return !in(p, 0, 7) || with[1] < -1 ? OUTSIDE : told(firstOtherwise(p), (int) with[1]);
            case "count": return !in(p, 0, 3) ? OUTSIDE
                : new int[] {row.length(), text.length(), machines[0].size(), machines[1].size()}[p];
            default: return in(p, 0, 1) ? ofReader(call, machines[p], with) : UNKNOWN;
        }
    }

    private int ofReader(String call, Machine m, long[] with) {
        int p = with.length > 1 ? (int) with[1] : 0, q = with.length > 2 ? (int) with[2] : 0;
        switch (call) {
            case "reader": return reader(m, p, q);
            case "fault": return read(text.toString(), m, null);
            case "moves": return moves(m);
            case "move": return move(m, p, q, (int) with[3]);
            case "drop": return drop(m, p, q);
            case "run": return in(p, 0, 4) ? run(m, p) : OUTSIDE;
            case "said": return p < 0 ? OUTSIDE : told(onRow(m, row.toString()).said, p);
            case "table": return !in(q, 0, m.states - 1) ? UNKNOWN : !in(p, 0, 1) ? OUTSIDE : row.length() == 0 ? NOT
                : entry(m, row.toString(), p, q);
            case "like": return p < -1 ? OUTSIDE : row.length() == 0 ? NOT : tables(m).isEmpty() ? SPENT
                : told(tables(m).get(table(m, row.toString())), p);
            case "kinds": return tables(m).isEmpty() ? SPENT : tables(m).size();
            case "most": return in(p, 0, 7) ? most(m, p) : OUTSIDE;
            case "shortest": return p < -1 ? OUTSIDE : told(firstEnding(beginnings(m), 1), p);
            case "round": return p < -1 ? OUTSIDE : told(firstEnding(beginnings(m), 2), p);
            default: return counted(call, m, p, q, with);
        }
    }

    private int counted(String call, Machine m, int p, int q, long[] with) {
        Beginnings b = beginnings(m);
        switch (call) {
            case "many": return in(p, 0, 10000) ? (int) ways(b, p)[0] : OUTSIDE;
            case "of": return !in(p, 0, 12) || q < 0 || with[3] < 0 ? OUTSIDE : letterOf(b, p, q, (int) with[3]);
            case "rank": return row.length() > 12 ? NOT : rank(m, b);
            case "fewest": return b.groups;
            case "alike": return !in(p, 0, row.length()) || !in(q, 0, row.length()) ? OUTSIDE
                : b.group[behind(b, row.substring(0, p))] == b.group[behind(b, row.substring(0, q))] ? 1 : 0;
            default: throw new IllegalArgumentException(call);
        }
    }

    private int reader(Machine m, int states, int takes) {
        if (!in(states, 1, 5) || !in(takes, 0, (1 << states) - 1)) {
            return OUTSIDE;
        }
        m.states = states;
        m.takes = takes;
        m.moves = new String[5][5];
        return 1;
    }

    private int write(long bytes, int n) {
        if (!in(n, 1, 8)) {
            return OUTSIDE;
        }
        if (text.length() + n > 160) {
            return FULL;
        }
        for (int i = 0; i < n; i++) {
            text.append((char) (bytes >>> 8 * i & 255));
        }
        return text.length();
    }

    private int moves(Machine m) {
        if (read(text.toString(), m, null) != NONE) {
            return NOT;
        }
        read(text.toString(), m, m);
        text.setLength(0);
        return m.size();
    }

    private int move(Machine m, int state, int sign, int what) {
        if (!in(state, 0, m.states - 1) || !in(sign, 0, 4)) {
            return UNKNOWN;
        }
        if (!in(what, 0, 2)) {
            return OUTSIDE;
        }
        String move = m.moves[state][sign];
        return move == null ? NONE : what == 0 ? move.charAt(0) - '0' : what == 1 ? "lr".indexOf(move.charAt(1))
            : move.length() == 2 ? NONE : "abc".indexOf(move.charAt(2));
    }

    private int drop(Machine m, int state, int sign) {
        if (!in(state, 0, m.states - 1) || !in(sign, 0, 4) || m.moves[state][sign] == null) {
            return UNKNOWN;
        }
        m.moves[state][sign] = null;
        return m.size();
    }

    private int row(long letters, int n) {
        if (!in(n, 0, 24)) {
            return OUTSIDE;
        }
        StringBuilder fresh = new StringBuilder();
        for (int i = 0; i < n; i++) {
            fresh.append("abc?".charAt((int) (letters >>> 2 * i & 3)));
        }
        if (fresh.indexOf("?") >= 0) {
            return UNKNOWN;
        }
        row.setLength(0);
        row.append(fresh);
        return 1;
    }

    private int run(Machine m, int what) {
        Steps s = onRow(m, row.toString());
        return new int[] {ending(m, row.toString()), s.moves, s.place, s.state, s.said.length()}[what];
    }

    private static int most(Machine m, int length) {
        int most = NONE;
        for (String row : allRows(length)) {
            Steps s = onRow(m, row);
            most = s.how == 'o' ? most : Math.max(most, s.moves);
        }
        return most;
    }

    /** Row i by going through the first letters: as many rows as lie behind each are passed over. */
    private static int letterOf(Beginnings b, int length, int i, int k) {
        long passed = 0;
        int at = 0;
        StringBuilder row = new StringBuilder();
        for (int left = length - 1; left >= 0; left--) {
            long[] ways = ways(b, left);
            for (int c = 0; c <= 3; c++) {
                if (c == 3) {
                    return NONE;
                }
                long here = ways[b.next[at][c]];
                if (i < passed + here) {
                    row.append("abc".charAt(c));
                    at = b.next[at][c];
                    break;
                }
                passed += here;
            }
        }
        return told(row.toString(), k);
    }

    /** How many rows that are taken come ahead of THE ROW: for each place those with a lower letter there. */
    private int rank(Machine m, Beginnings b) {
        if (ending(m, row.toString()) != 1) {
            return NONE;
        }
        long ahead = 0;
        for (int i = 0; i < row.length(); i++) {
            long[] ways = ways(b, row.length() - i - 1);
            for (char c = 'a'; c < row.charAt(i); c++) {
                ahead += ways[behind(b, row.substring(0, i) + c)];
            }
        }
        return (int) ahead;
    }

    private int parted(int k) {
        Beginnings one = beginnings(machines[0]), other = beginnings(machines[1]);
        Map<Long, String> first = new HashMap<>();
        ArrayDeque<String> rows = new ArrayDeque<>(List.of(""));
        String parting = null;
        while (!rows.isEmpty()) {
            String row = rows.poll();
            int p = behind(one, row), q = behind(other, row);
            if (first.putIfAbsent(p * 10000L + q, row) == null) {
                parting = parting == null && (one.end[p] == 1) != (other.end[q] == 1) ? row : parting;
                rows.addAll(List.of(row + "a", row + "b", row + "c"));
            }
        }
        return first.size() > 4000 ? SPENT : told(parting, k);
    }

    private String firstOtherwise(int most) {
        for (int length = 0; length <= most; length++) {
            for (String row : allRows(length)) {
                boolean both = ending(machines[0], row) == 1 && ending(machines[1], row) == 1;
                if (both && !onRow(machines[0], row).said.equals(onRow(machines[1], row).said)) {
                    return row;
                }
            }
        }
        return null;
    }

    // ---- runs of calls

    private static int checked = 0, wrong = 0;
    private static final Map<String, Integer> GOOD = new HashMap<>();

    private final BothWays x = new BothWays();
    private final Random random;
    private final StringBuilder history = new StringBuilder();
    private int calls = 0;

    private RunsOfCalls(Random random) {
        this.random = random;
    }

    private static int ask(BothWays x, String call, long[] w) {
        int[] i = new int[4];
        for (int at = 0; at < w.length; at++) {
            i[at] = (int) w[at];
        }
        switch (call) {
            case "reader": return x.reader(i[0], i[1], i[2]);
            case "write": return x.write(w[0], i[1]);
            case "erase": return x.erase();
            case "fault": return x.fault(i[0]);
            case "moves": return x.moves(i[0]);
            case "move": return x.move(i[0], i[1], i[2], i[3]);
            case "drop": return x.drop(i[0], i[1], i[2]);
            case "letter": return x.letter(i[0]);
            case "row": return x.row(w[0], i[1]);
            case "run": return x.run(i[0], i[1]);
            case "said": return x.said(i[0], i[1]);
            case "table": return x.table(i[0], i[1], i[2]);
            case "like": return x.like(i[0], i[1]);
            case "kinds": return x.kinds(i[0]);
            case "many": return x.many(i[0], i[1]);
            case "of": return x.of(i[0], i[1], i[2], i[3]);
            case "rank": return x.rank(i[0]);
            case "fewest": return x.fewest(i[0]);
            case "alike": return x.alike(i[0], i[1], i[2]);
            case "shortest": return x.shortest(i[0], i[1]);
            case "round": return x.round(i[0], i[1]);
            case "parted": return x.parted(i[0]);
            case "otherwise": return x.otherwise(i[0], i[1]);
            case "most": return x.most(i[0], i[1]);
            case "count": return x.count(i[0]);
            default: throw new IllegalArgumentException(call);
        }
    }

    private void make(String call, long... with) {
        if (calls == 512) {
            return;
        }
        calls++;
        int want = answer(call, with), got = ask(x, call, with);
        history.append(call).append(Arrays.toString(with)).append(' ').append(got).append('\n');
        checked++;
        if (want >= 0) {
            GOOD.merge(call, 1, Integer::sum);
        }
        if (want != got) {
            wrong++;
            if (wrong == 1) {
                System.out.print(history);
            }
            if (wrong < 20) {
                System.out.println(call + Arrays.toString(with) + " answered " + got + ", due is " + want);
            }
        }
    }

    /** A number of its range, or now and then one beyond. */
    private long any(int least, int most) {
        switch (random.nextInt(40)) {
            case 0: return least - 1L;
            case 1: return most + 1L;
            case 2: return random.nextInt();
            default: return least + random.nextInt(most - least + 1);
        }
    }

    private void tellText(String bytes) {
        for (int i = 0; i < bytes.length();) {
            int n = Math.min(bytes.length() - i, random.nextInt(6) == 0 ? 1 + random.nextInt(8) : 8);
            // Bytes beyond n are of no account, whatever they are.
            long all = random.nextInt(4) == 0 ? random.nextLong() : 0L;
            for (int j = 0; j < n; j++) {
                all = all & ~(255L << 8 * j) | (long) bytes.charAt(i + j) << 8 * j;
            }
            make("write", all, n);
            i += n;
        }
    }

    private String oneMove(int states, int leftness) {
        int g = random.nextInt(5);
        String step = g == 3 ? "right" : g == 4 || random.nextInt(100) < leftness ? "left" : "right";
        if (random.nextInt(10) == 0) {
            step = step.equals("left") ? "right" : "left";
        }
        String say = random.nextInt(3) == 0 ? (random.nextBoolean() ? " say " : "say ") + "abc".charAt(random.nextInt(3)) : "";
        String gap = random.nextInt(5) == 0 ? "  " : random.nextBoolean() ? " " : "";
        return random.nextInt(states) + gap + SIGNS[g] + " " + step + " to" + gap + random.nextInt(states) + say;
    }

    private static String spoiled(String text, Random random) {
        int at = random.nextInt(text.length());
        String[] odd = {";", " ", "9", "a", "\u0000", "\u00ff", "A", "to", ""};
        return text.substring(0, at) + odd[random.nextInt(odd.length)] + text.substring(random.nextBoolean() ? at : at + 1);
    }

    private void tellMoves(int reader, int moves, int leftness) {
        StringBuilder all = new StringBuilder();
        for (int i = 0; i < moves; i++) {
            all.append(i == 0 ? "" : random.nextInt(4) == 0 ? " ; " : ";").append(oneMove(machines[reader].states, leftness));
        }
        tellText(random.nextInt(8) == 0 ? spoiled(all.toString(), random) : all.toString());
        make("fault", random.nextInt(2));
        make("moves", reader);
        make(random.nextInt(3) == 0 ? "fault" : "erase", random.nextInt(3) == 0 ? new long[] {reader} : new long[] {0});
    }

    /** A move of each state and sign, for some of them; most ways lead to the right end, so that rows are taken. */
    private List<String> manyMoves(int states) {
        List<String> moves = new ArrayList<>();
        int full = 60 + random.nextInt(41), atLast = random.nextInt(60), leftness = 10 + random.nextInt(50);
        for (int state = 0; state < states; state++) {
            for (int g = 0; g < 5; g++) {
                if (random.nextInt(100) < (g == 4 ? atLast : full) || state == 0 && g == 3) {
                    String step = g == 3 || g < 3 && random.nextInt(100) >= leftness ? " right" : " left";
                    String say = random.nextInt(3) == 0 ? " say " + "abc".charAt(random.nextInt(3)) : "";
                    moves.add(state + SIGNS[g] + step + " to" + random.nextInt(states) + say);
                }
            }
        }
        return moves;
    }

    private void tellAll(int reader, int states, int takes, List<String> moves) {
        make("erase");
        make("reader", reader, states, takes);
        StringBuilder all = new StringBuilder();
        for (String move : moves) {
            if (all.length() + 1 + move.length() > 160) {
                tellText(all.toString());
                make("moves", reader);
                all.setLength(0);
            }
            all.append(all.length() == 0 ? "" : ";").append(move);
        }
        tellText(all.toString());
        make("moves", reader);
    }

    /** Two readers, now and then alike but for a move or two. */
    private void tellBoth() {
        int states = random.nextInt(4) == 0 ? 1 + random.nextInt(5) : 3 + random.nextInt(3);
        int takes = random.nextInt(1 << states) | random.nextInt(1 << states);
        List<String> moves = manyMoves(states);
        tellAll(0, states, takes, moves);
        if (random.nextBoolean()) {
            int others = 2 + random.nextInt(4);
            tellAll(1, others, random.nextInt(1 << others), manyMoves(others));
            return;
        }
        tellAll(1, states, takes, moves);
        tellMoves(1, 1, 30);
    }

    private void tellRow() {
        int n = (int) any(0, 24);
        long letters = random.nextLong();
        for (int i = 0; i < 24 && random.nextInt(60) != 0; i++) {
            letters = letters & ~(3L << 2 * i) | (long) random.nextInt(3) << 2 * i;
        }
        make("row", letters, random.nextBoolean() ? Math.min(n, random.nextInt(13)) : n);
    }

    private void askOne() {
        long reader = any(0, 1);
        int letters = row.length();
        switch (random.nextInt(27)) {
            case 0: make("run", reader, any(0, 4)); break;
            case 1: make("run", reader, any(0, 4)); break;
            case 2: make("said", reader, any(0, 5)); break;
            case 3: make("table", reader, any(0, 1), any(0, 4)); break;
            case 4: make("table", reader, any(0, 1), any(0, 4)); break;
            case 5: make("like", reader, any(-1, 4)); break;
            case 6: make("kinds", reader); break;
            case 7: make("many", reader, random.nextInt(12) == 0 ? any(9990, 10000) : any(0, 40)); break;
            case 8: make("of", reader, any(0, 12), random.nextBoolean() ? any(0, 20) : any(0, 2000), any(0, 11)); break;
            case 9: make("of", reader, any(0, 5), any(0, 30), any(0, 4)); break;
            case 10: make("rank", reader); break;
            case 11: make("fewest", reader); break;
            case 12: make("alike", reader, any(0, letters), any(0, letters)); break;
            case 13: make("alike", reader, any(0, letters), any(0, letters)); break;
            case 14: make("shortest", reader, any(-1, 4)); break;
            case 15: make("round", reader, any(-1, 4)); break;
            case 16: make("parted", any(-1, 4)); break;
            case 17: make("otherwise", random.nextBoolean() ? 7 : any(0, 7), any(-1, 3)); break;
            case 18: make("most", reader, any(0, random.nextInt(3) == 0 ? 7 : 4)); break;
            case 19: make("count", any(0, 3)); break;
            case 20: make("letter", any(0, 2)); break;
            case 21: make("move", reader, any(0, 4), any(0, 4), any(0, 2)); break;
            case 22: make("fault", reader); break;
            case 23: make("rank", reader); break;
            default: tellRow(); break;
        }
    }

    /** A reader without moves, and nothing told of it that was asked of the one before. */
    private void becomeBare(int reader) {
        int states = 1 + random.nextInt(5);
        make("reader", reader, states, random.nextInt(1 << states));
        make("kinds", reader);
        make("fewest", reader);
        make("round", reader, -1);
        make("parted", -1);
        make("otherwise", 7, -1);
    }

    private void changeOne() {
        int reader = random.nextInt(2);
        switch (random.nextInt(8)) {
            case 0: make("drop", any(0, 1), any(0, 4), any(0, 4)); break;
            case 1: make("erase"); break;
            case 2: tellText(spoiled(oneMove(5, 50), random)); make("moves", any(0, 1)); break;
            case 3: make("reader", any(0, 1), any(-1, 0), any(0, 31)); break;
            case 4: if (calls > 400) { becomeBare(reader); } break;
            default: make("erase"); tellMoves(reader, 1, 50); break;
        }
    }

    private void go() {
        make("count", 0);
        tellBoth();
        while (calls < 512) {
            if (random.nextInt(14) == 0) {
                changeOne();
            } else {
                askOne();
            }
            if (calls > 250 && calls < 400 && random.nextInt(120) == 0) {
                tellBoth();
            }
        }
    }

    public static void main(String[] args) {
        int objects = args.length > 0 ? Integer.parseInt(args[0]) : 60;
        long seed = args.length > 1 ? Long.parseLong(args[1]) : 8L;
        for (int i = 0; i < objects; i++) {
            TABLES.clear();
            BEGINNINGS.clear();
            new RunsOfCalls(new Random(seed * 1000003L + i)).go();
        }
        if (args.length > 2) {
            System.out.println("good answers: " + new java.util.TreeMap<>(GOOD));
        }
        System.out.println(checked + " answers, " + wrong + " not as due");
        if (wrong != 0) {
            System.exit(1);
        }
    }
}
