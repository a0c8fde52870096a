import java.util.ArrayList;
import java.util.Arrays;
import java.util.HashMap;
import java.util.HashSet;
import java.util.List;
import java.util.Map;
import java.util.Random;
import java.util.Set;

/**
 * Random readers, rows and texts, the same ones in every run: each call's answer against that of a plain model,
 * which steps every row letter by letter and never joins what it knows of parts.
 */
public final class AgainstPlain {
    private static final int NONE = -1, SPENT = -6, NOT = -4;
    private static int wrong = 0;
    private static int checked = 0;

    /** A reader of the model: to, step and letter of each state and sign, or null. */
    private static final class Model {
        final int states, takes;
        final int[][] moves;

        Model(int states, int takes) {
            this.states = states;
            this.takes = takes;
            moves = new int[states * 5][];
        }

        int size() {
            int size = 0;
            for (int[] move : moves) {
                size += move == null ? 0 : 1;
            }
            return size;
        }
    }

    /** How a way ended: 0 stops, 1 takes, 2 around, 3 out to the left, 4 out to the right. */
    private static final class Way {
        int end, moves, place, state;
        final List<Integer> said = new ArrayList<>();
    }

    /** Steps over signs from a place in a state till it ends or leaves the signs. */
    private static Way way(Model m, int[] signs, int place, int state) {
        Way w = new Way();
        w.place = place;
        w.state = state;
        Set<Integer> seen = new HashSet<>();
        while (true) {
            if (w.place < 0 || w.place >= signs.length) {
                w.end = w.place < 0 ? 3 : 4;
                return w;
            }
            if (!seen.add(w.place * 8 + w.state)) {
                w.end = 2;
                return w;
            }
            int[] move = m.moves[w.state * 5 + signs[w.place]];
            if (move == null) {
                w.end = signs[w.place] == 4 && (m.takes >> w.state & 1) == 1 ? 1 : 0;
                return w;
            }
            w.moves++;
            w.place += move[1] == 1 ? 1 : -1;
            w.state = move[0];
            if (move[2] != NONE) {
                w.said.add(move[2]);
            }
        }
    }

    private static int[] withEnds(int[] row) {
        int[] signs = new int[row.length + 2];
        signs[0] = 3;
        System.arraycopy(row, 0, signs, 1, row.length);
        signs[row.length + 1] = 4;
        return signs;
    }

    private static Way whole(Model m, int[] row) {
        return way(m, withEnds(row), 0, 0);
    }

    private static int leaves(Way w) {
        return w.end == 3 ? 2 * w.state : w.end == 4 ? 2 * w.state + 1 : w.end == 2 ? 11 : 10;
    }

    private static String table(Model m, int[] row) {
        StringBuilder all = new StringBuilder();
        for (int side = 0; side < 2; side++) {
            for (int s = 0; s < m.states; s++) {
                all.append(leaves(way(m, row, side == 0 ? 0 : row.length - 1, s))).append(',');
            }
        }
        return all.toString();
    }

    private static String beginning(Model m, int[] row) {
        int[] signs = Arrays.copyOf(withEnds(row), row.length + 1);
        StringBuilder all = new StringBuilder();
        all.append(leaves(way(m, signs, 0, 0))).append(',');
        for (int s = 0; s < m.states; s++) {
            all.append(leaves(way(m, signs, row.length, s))).append(',');
        }
        return all.toString();
    }

    private static int[] longer(int[] row, int letter) {
        int[] more = Arrays.copyOf(row, row.length + 1);
        more[row.length] = letter;
        return more;
    }

    private interface Told {
        String of(int[] row);
    }

    /** The first rows of all that is told unlike, or null if there are more than 'most'. */
    private static List<int[]> unlike(Told told, boolean withEmpty, int most) {
        List<int[]> rows = new ArrayList<>();
        Set<String> seen = new HashSet<>();
        if (withEmpty) {
            seen.add(told.of(new int[0]));
            rows.add(new int[0]);
        } else {
            for (int x = 0; x < 3; x++) {
                int[] row = {x};
                if (seen.add(told.of(row))) {
                    rows.add(row);
                }
            }
        }
        for (int i = 0; i < rows.size(); i++) {
            for (int x = 0; x < 3; x++) {
                int[] row = longer(rows.get(i), x);
                if (seen.add(told.of(row))) {
                    rows.add(row);
                }
            }
            if (rows.size() > most) {
                return null;
            }
        }
        return rows;
    }

    private static void due(String what, int got, int want) {
        checked++;
        if (got != want) {
            wrong++;
            if (wrong < 50) {
                System.out.println(what + " answered " + got + ", due is " + want);
            }
        }
    }

    // ---- making readers

    private static Model randomModel(Random random, int kind) {
        int states = kind == 0 ? 1 + random.nextInt(5) : 2 + random.nextInt(4);
        Model m = new Model(states, random.nextInt(1 << states));
        int full = 40 + random.nextInt(61);
        int rights = 30 + random.nextInt(60);
        for (int s = 0; s < states; s++) {
            for (int g = 0; g < 5; g++) {
                boolean there = random.nextInt(100) < (g == 4 ? full / 2 : full) || s == 0 && g == 3;
                if (there) {
                    int step = g == 3 ? 1 : g == 4 ? 0 : random.nextInt(100) < rights ? 1 : 0;
                    m.moves[s * 5 + g] = new int[] {random.nextInt(states), step, random.nextInt(4) - 1};
                }
            }
        }
        return m;
    }

    private static String words(int s, int g, int[] move) {
        String sign = new String[] {"a", "b", "c", "first", "last"}[g];
        String say = move[2] == NONE ? "" : " say " + "abc".charAt(move[2]);
        return s + " " + sign + (move[1] == 1 ? " right" : " left") + " to " + move[0] + say;
    }

    private static void write(BothWays x, String text) {
        for (int i = 0; i < text.length(); i += 8) {
            int n = Math.min(8, text.length() - i);
            long bytes = 0;
            for (int j = 0; j < n; j++) {
                bytes |= (long) text.charAt(i + j) << 8 * j;
            }
            x.write(bytes, n);
        }
    }

    private static void tell(BothWays x, int reader, Model m) {
        x.reader(reader, m.states, m.takes);
        int had = 0;
        StringBuilder text = new StringBuilder();
        for (int i = 0; i < m.moves.length; i++) {
            if (m.moves[i] == null) {
                continue;
            }
            text.append(text.length() == 0 ? "" : ";").append(words(i / 5, i % 5, m.moves[i]));
            had++;
            if (text.length() > 130) {
                write(x, text.toString());
                due("moves", x.moves(reader), had);
                text.setLength(0);
            }
        }
        if (text.length() > 0) {
            write(x, text.toString());
            due("moves", x.moves(reader), had);
        }
    }

    private static void setRow(BothWays x, int[] row) {
        long bits = 0;
        for (int i = 0; i < row.length; i++) {
            bits |= (long) row[i] << 2 * i;
        }
        due("row", x.row(bits, row.length), 1);
    }

    private static int[] randomRow(Random random, int most) {
        int[] row = new int[random.nextInt(most + 1)];
        for (int i = 0; i < row.length; i++) {
            row[i] = random.nextInt(3);
        }
        return row;
    }

    private static int[] rowOf(int length, int code) {
        int[] row = new int[length];
        for (int i = length - 1; i >= 0; i--) {
            row[i] = code % 3;
            code /= 3;
        }
        return row;
    }

    private static int power(int n) {
        return n == 0 ? 1 : 3 * power(n - 1);
    }

    // ---- the checks

    private static void checkRow(BothWays x, int reader, Model m, int[] row, String name) {
        Way w = whole(m, row);
        due(name + " run 0", x.run(reader, 0), w.end);
        due(name + " run 1", x.run(reader, 1), w.moves);
        due(name + " run 2", x.run(reader, 2), w.place);
        due(name + " run 3", x.run(reader, 3), w.state);
        due(name + " run 4", x.run(reader, 4), w.said.size());
        for (int k = 0; k <= w.said.size(); k += 1 + k / 4) {
            due(name + " said " + k, x.said(reader, k), k < w.said.size() ? w.said.get(k) : NONE);
        }
        for (int side = 0; side < 2; side++) {
            for (int s = 0; s < m.states; s++) {
                int want = row.length == 0 ? NOT : leaves(way(m, row, side == 0 ? 0 : row.length - 1, s));
                due(name + " table " + side + " " + s, x.table(reader, side, s), want);
            }
        }
    }

    private interface Asked {
        int of(int k);
    }

    private static void checkTold(String name, Asked asked, int[] row) {
        due(name + " -1", asked.of(-1), row == null ? NONE : row.length);
        int length = row == null ? 0 : row.length;
        for (int k = 0; k <= length; k += 1 + k / 8) {
            due(name + " " + k, asked.of(k), k < length ? row[k] : NONE);
        }
        due(name + " far", asked.of(Integer.MAX_VALUE), NONE);
    }

    private static void checkKinds(BothWays x, int reader, Model m, int[] row, String name) {
        List<int[]> all = unlike(r -> table(m, r), false, 800);
        due(name + " kinds", x.kinds(reader), all == null ? SPENT : all.size());
        if (row.length == 0) {
            due(name + " like", x.like(reader, -1), NOT);
        } else if (all == null) {
            due(name + " like", x.like(reader, -1), SPENT);
        } else {
            int[] first = null;
            String wanted = table(m, row);
            for (int[] r : all) {
                if (first == null && table(m, r).equals(wanted)) {
                    first = r;
                }
            }
            checkTold(name + " like", k -> x.like(reader, k), first);
        }
    }

    /** The model's reader that only goes to the right: one state for each thing that beginnings do. */
    private static final class Forward {
        List<int[]> rows;
        int[][] next;
        int[] ends;
        boolean[][] apart;
        int classes;
    }

    private static Forward forward(Model m) {
        Forward f = new Forward();
        f.rows = unlike(r -> beginning(m, r), true, 800);
        if (f.rows == null) {
            return null;
        }
        int n = f.rows.size();
        Map<String, Integer> index = new HashMap<>();
        for (int i = 0; i < n; i++) {
            index.put(beginning(m, f.rows.get(i)), i);
        }
        f.next = new int[n][3];
        f.ends = new int[n];
        for (int i = 0; i < n; i++) {
            f.ends[i] = whole(m, f.rows.get(i)).end;
            for (int c = 0; c < 3; c++) {
                f.next[i][c] = index.get(beginning(m, longer(f.rows.get(i), c)));
            }
        }
        mark(f);
        return f;
    }

    private static void mark(Forward f) {
        int n = f.next.length;
        f.apart = new boolean[n][n];
        boolean more = true;
        for (int i = 0; i < n; i++) {
            for (int j = 0; j < n; j++) {
                f.apart[i][j] = (f.ends[i] == 1) != (f.ends[j] == 1);
            }
        }
        while (more) {
            more = false;
            for (int i = 0; i < n; i++) {
                for (int j = 0; j < n; j++) {
                    for (int c = 0; c < 3 && !f.apart[i][j]; c++) {
                        if (f.apart[f.next[i][c]][f.next[j][c]]) {
                            f.apart[i][j] = true;
                            more = true;
                        }
                    }
                }
            }
        }
        for (int i = 0; i < n; i++) {
            boolean first = true;
            for (int j = 0; j < i; j++) {
                first &= f.apart[i][j];
            }
            f.classes += first ? 1 : 0;
        }
    }

    private static int behind(Forward f, int[] row, int n) {
        int at = 0;
        for (int i = 0; i < n; i++) {
            at = f.next[at][row[i]];
        }
        return at;
    }

    private static int manyByStates(Forward f, int n) {
        long[] now = new long[f.next.length];
        now[0] = 1;
        for (int i = 0; i < n; i++) {
            long[] then = new long[now.length];
            for (int s = 0; s < now.length; s++) {
                for (int c = 0; c < 3; c++) {
                    then[f.next[s][c]] = (then[f.next[s][c]] + now[s]) % 1000000007L;
                }
            }
            now = then;
        }
        long sum = 0;
        for (int s = 0; s < now.length; s++) {
            sum += f.ends[s] == 1 ? now[s] : 0;
        }
        return (int) (sum % 1000000007L);
    }

    private static int[] firstEnding(Forward f, int end) {
        for (int i = 0; i < f.ends.length; i++) {
            if (f.ends[i] == end) {
                return f.rows.get(i);
            }
        }
        return null;
    }

    private static void checkSpent(BothWays x, int reader, String name) {
        due(name + " many spent", x.many(reader, 0), SPENT);
        due(name + " of spent", x.of(reader, 0, 0, 0), SPENT);
        due(name + " rank spent", x.rank(reader), x.count(0) > 12 ? NOT : SPENT);
        due(name + " fewest spent", x.fewest(reader), SPENT);
        due(name + " alike spent", x.alike(reader, 0, 0), SPENT);
        due(name + " shortest spent", x.shortest(reader, -1), SPENT);
        due(name + " round spent", x.round(reader, 0), SPENT);
        due(name + " parted spent", x.parted(-1), SPENT);
    }

    private static void checkCounts(BothWays x, int reader, Model m, Forward f, Random random, String name) {
        due(name + " fewest", x.fewest(reader), f.classes);
        checkTold(name + " shortest", k -> x.shortest(reader, k), firstEnding(f, 1));
        checkTold(name + " round", k -> x.round(reader, k), firstEnding(f, 2));
        int far = random.nextInt(400);
        due(name + " many " + far, x.many(reader, far), manyByStates(f, far));
        int n = random.nextInt(8);
        List<int[]> taken = new ArrayList<>();
        for (int code = 0; code < power(n); code++) {
            int[] row = rowOf(n, code);
            if (whole(m, row).end == 1) {
                taken.add(row);
            }
        }
        due(name + " many " + n, x.many(reader, n), taken.size());
        for (int tries = 0; tries < 6; tries++) {
            int i = random.nextInt(taken.size() + 2);
            int k = random.nextInt(n + 2);
            int want = i < taken.size() && k < n ? taken.get(i)[k] : NONE;
            due(name + " of " + n + " " + i + " " + k, x.of(reader, n, i, k), want);
        }
        int code = random.nextInt(power(n));
        int[] row = taken.isEmpty() || random.nextBoolean() ? rowOf(n, code) : taken.get(random.nextInt(taken.size()));
        setRow(x, row);
        int place = NONE;
        for (int i = 0; i < taken.size(); i++) {
            place = Arrays.equals(taken.get(i), row) ? i : place;
        }
        due(name + " rank", x.rank(reader), place);
        checkAlike(x, reader, f, random, name);
    }

    private static void checkAlike(BothWays x, int reader, Forward f, Random random, String name) {
        int[] row = randomRow(random, 24);
        setRow(x, row);
        for (int tries = 0; tries < 5; tries++) {
            int i = random.nextInt(row.length + 1), j = random.nextInt(row.length + 1);
            boolean apart = f.apart[behind(f, row, i)][behind(f, row, j)];
            due(name + " alike " + i + " " + j, x.alike(reader, i, j), apart ? 0 : 1);
        }
    }

    private static void checkParted(BothWays x, Forward f, Forward g, String name) {
        List<int[]> pairs = new ArrayList<>();
        List<int[]> rows = new ArrayList<>();
        Set<Integer> seen = new HashSet<>();
        pairs.add(new int[] {0, 0});
        rows.add(new int[0]);
        seen.add(0);
        int[] first = null;
        for (int i = 0; i < pairs.size(); i++) {
            int p = pairs.get(i)[0], q = pairs.get(i)[1];
            if (first == null && (f.ends[p] == 1) != (g.ends[q] == 1)) {
                first = rows.get(i);
            }
            for (int c = 0; c < 3; c++) {
                int s = f.next[p][c], t = g.next[q][c];
                if (seen.add(s * 1000 + t)) {
                    pairs.add(new int[] {s, t});
                    rows.add(longer(rows.get(i), c));
                }
            }
        }
        if (pairs.size() > 4000) {
            due(name + " parted of many pairs", x.parted(-1), SPENT);
        } else {
            checkTold(name + " parted", x::parted, first);
        }
    }

    private static void checkTried(BothWays x, Model m, Model other, Random random, String name) {
        int n = random.nextInt(8);
        int[] first = null;
        for (int length = 0; length <= n && first == null; length++) {
            for (int code = 0; code < power(length) && first == null; code++) {
                int[] row = rowOf(length, code);
                Way v = whole(m, row), w = whole(other, row);
                if (v.end == 1 && w.end == 1 && !v.said.equals(w.said)) {
                    first = row;
                }
            }
        }
        checkTold(name + " otherwise " + n, k -> x.otherwise(n, k), first);
        int best = NONE;
        for (int code = 0; code < power(n); code++) {
            Way w = whole(m, rowOf(n, code));
            best = w.end == 2 ? best : Math.max(best, w.moves);
        }
        due(name + " most " + n, x.most(0, n), best);
    }

    private static void checkMoves(BothWays x, int reader, Model m, String name) {
        // One thing of each move: all three of all would take an object beyond its 512 calls.
        for (int i = 0; i < m.moves.length; i++) {
            int what = (i + checked) % 3;
            int want = m.moves[i] == null ? NONE : m.moves[i][what];
            due(name + " move", x.move(reader, i / 5, i % 5, what), want);
        }
        due(name + " count", x.count(2 + reader), m.size());
    }

    /** One move more, or one less: what was known of the readers before must not be told any more. */
    private static void change(BothWays x, int reader, Model m, Random random) {
        int i = random.nextInt(m.moves.length);
        if (m.moves[i] != null) {
            m.moves[i] = null;
            due("drop", x.drop(reader, i / 5, i % 5), m.size());
        } else {
            int step = i % 5 == 3 ? 1 : i % 5 == 4 ? 0 : random.nextInt(2);
            m.moves[i] = new int[] {random.nextInt(m.states), step, random.nextInt(4) - 1};
            write(x, words(i / 5, i % 5, m.moves[i]));
            due("moves", x.moves(reader), m.size());
        }
    }

    private static void checkAll(BothWays x, Model[] models, Random random, String name) {
        Forward[] forwards = {forward(models[0]), forward(models[1])};
        for (int r = 0; r < 2; r++) {
            checkMoves(x, r, models[r], name);
            int[] row = randomRow(random, 24);
            setRow(x, row);
            checkRow(x, r, models[r], row, name);
            checkKinds(x, r, models[r], row, name);
            if (forwards[r] == null) {
                checkSpent(x, r, name);
            } else {
                checkCounts(x, r, models[r], forwards[r], random, name);
            }
        }
        if (forwards[0] != null && forwards[1] != null) {
            checkParted(x, forwards[0], forwards[1], name);
        }
        checkTried(x, models[0], models[1], random, name);
    }

    // ---- readers of much

    private static Model modelOf(int takes, String text) {
        Model m = new Model(5, takes);
        List<String> signs = List.of("a", "b", "c", "first", "last");
        for (String move : text.split(";")) {
            String[] words = move.split(" ");
            int i = Integer.parseInt(words[0]) * 5 + signs.indexOf(words[1]);
            m.moves[i] = new int[] {Integer.parseInt(words[4]), words[2].equals("right") ? 1 : 0, NONE};
        }
        return m;
    }

    private static void checkMuch(Random random) {
        BothWays x = new BothWays();
        Model[] models = {modelOf(12, Readers.BROAD), modelOf(11, Readers.DEEP)};
        due("things of the broad one", forward(models[0]).rows.size(), 769);
        due("states of the deep one", forward(models[1]).classes, 83);
        tell(x, 0, models[0]);
        tell(x, 1, models[1]);
        checkAll(x, models, random, "much");
        due("length 10000", x.many(1, 10000), manyByStates(forward(models[1]), 10000));
        for (int s = 4; s > 0; s--) {
            models[0].moves[s * 5 + 4] = null;
            due("drop", x.drop(0, s, 4), models[0].size());
            BothWays y = new BothWays();
            tell(y, 0, models[0]);
            tell(y, 1, models[1]);
            checkAll(y, models, random, "much, less of " + s);
            due("fewest", x.fewest(0), y.fewest(0));
        }
    }

    private static void checkFar(Random random) {
        BothWays x = new BothWays();
        Model[] models = {modelOf(8, Readers.FAR_TAKEN), modelOf(27, Readers.FAR_AROUND)};
        due("the shortest that is taken", firstEnding(forward(models[0]), 1).length, 13);
        due("the shortest that is gone around on", firstEnding(forward(models[1]), 2).length, 13);
        tell(x, 0, models[0]);
        tell(x, 1, models[1]);
        checkAll(x, models, random, "far");
    }

    /** One object for several readers, one behind the other: nothing that was searched out for one is told of the next. */
    private static void checkOneBehindTheOther(Random random, int number) {
        BothWays x = new BothWays();
        for (int i = 0; i < 7; i++) {
            Model m = randomModel(random, 1);
            String name = "reader " + i + " of object " + number;
            tell(x, 0, m);
            Forward f = forward(m);
            due(name + " fewest", x.fewest(0), f.classes);
            due(name + " many", x.many(0, 3 * i), manyByStates(f, 3 * i));
            int[] taken = firstEnding(f, 1);
            due(name + " shortest", x.shortest(0, -1), taken == null ? NONE : taken.length);
            List<int[]> tables = unlike(r -> table(m, r), false, 800);
            due(name + " kinds", x.kinds(0), tables == null ? SPENT : tables.size());
        }
    }

    // ---- texts

    private static final String[] WORDS = {"0", "1", "2", "4", "5", "01", "10", "a", "b", "c", "d", "ab", "first", "last",
        "left", "right", "to", "say", "says", ";", ";;", "A", "-", "\u00ff", "\u0000", "to0", "\t"};

    private static boolean isSmall(int c) {
        return c >= 'a' && c <= 'z';
    }

    private static boolean isDigit(int c) {
        return c >= '0' && c <= '9';
    }

    /** The fault by trying tokens: the first one behind which, or at which, no text can go on. */
    private static int modelFault(String text, int states) {
        List<String> tokens = new ArrayList<>();
        List<Integer> places = new ArrayList<>();
        for (int i = 0; i < text.length();) {
            int c = text.charAt(i), j = i + 1;
            while (j < text.length() && (isSmall(c) && isSmall(text.charAt(j)) || isDigit(c) && isDigit(text.charAt(j)))) {
                j++;
            }
            if (c != ' ') {
                tokens.add(text.substring(i, j));
                places.add(i);
            }
            i = j;
        }
        StringBuilder before = new StringBuilder("|");
        for (int i = 0; i < tokens.size(); i++) {
            before.append(tokens.get(i)).append('|');
            if (!before.toString().matches(prefixes(states))) {
                return places.get(i);
            }
        }
        return before.toString().matches(whole(states)) ? NONE : text.length();
    }

    private static String oneMove(String s) {
        String turns = "(?:[abc]\\|(?:left|right)|first\\|right|last\\|left)\\|";
        return s + "\\|" + turns + "to\\|" + s + "\\|(?:say\\|[abc]\\|)?";
    }

    private static String whole(int states) {
        String move = oneMove("[0-" + (states - 1) + "]");
        return "\\|(?:" + move + ";\\|)*" + move;
    }

    private static String prefixes(int states) {
        String s = "[0-" + (states - 1) + "]";
        String move = oneMove(s);
        String part = "(?:" + s + "\\|(?:(?:[abc]|first|last)\\|(?:(?:(?<=first\\|)right|(?<=last\\|)left|(?<=[0-9]\\|[abc]\\|)(?:left|right))"
            + "\\|(?:to\\|(?:" + s + "\\|(?:say\\|(?:[abc]\\|)?)?)?)?)?)?)?";
        return "\\|(?:" + move + ";\\|)*" + part;
    }

    private static void checkText(Random random, int number) {
        BothWays x = new BothWays();
        int states = 1 + random.nextInt(5);
        x.reader(1, states, 0);
        StringBuilder text = new StringBuilder();
        int moves = 1 + random.nextInt(4);
        for (int i = 0; i < moves; i++) {
            int g = random.nextInt(5);
            int step = g == 3 ? 1 : g == 4 ? 0 : random.nextInt(2);
            int[] move = {random.nextInt(states), step, random.nextInt(4) - 1};
            text.append(i == 0 ? "" : random.nextBoolean() ? ";" : " ; ").append(words(random.nextInt(states), g, move));
        }
        int faults = random.nextInt(3);
        for (int i = 0; i < faults; i++) {
            int at = random.nextInt(text.length() + 1);
            switch (random.nextInt(4)) {
                case 0: text.insert(at, WORDS[random.nextInt(WORDS.length)]); break;
                case 1: text.setLength(at); break;
                case 2: text.insert(at, "  "); break;
                default: text.delete(at, Math.min(text.length(), at + 1 + random.nextInt(3))); break;
            }
        }
        String told = text.length() > 160 ? text.substring(0, 160) : text.toString();
        write(x, told);
        int want = modelFault(told, states);
        due("text " + number + " <" + told + "> for " + states + " states: fault", x.fault(1), want);
        int can = x.moves(1);
        due("text " + number + ": refused or not", can == NOT ? 1 : 0, want == NONE ? 0 : 1);
        due("text " + number + ": text kept or not", x.count(1), want == NONE ? 0 : told.length());
    }

    public static void main(String[] args) {
        int objects = args.length > 0 ? Integer.parseInt(args[0]) : 150;
        Random random = new Random(args.length > 1 ? Long.parseLong(args[1]) : 20261118L);
        for (int i = 0; i < objects; i++) {
            BothWays x = new BothWays();
            Model[] models = {randomModel(random, i % 2), null};
            models[1] = random.nextInt(3) > 0 ? randomModel(random, i % 2) : models[0];
            if (models[1] == models[0]) {
                models[1] = new Model(models[0].states, models[0].takes);
                System.arraycopy(models[0].moves, 0, models[1].moves, 0, models[0].moves.length);
                models[1].moves[random.nextInt(models[1].moves.length)] = null;
            }
            tell(x, 0, models[0]);
            tell(x, 1, models[1]);
            checkAll(x, models, random, "object " + i);
            int changed = random.nextInt(2);
            change(x, changed, models[changed], random);
            checkAll(x, models, random, "object " + i + " changed");
        }
        for (int i = 0; i < objects; i++) {
            checkOneBehindTheOther(random, i);
        }
        checkMuch(random);
        checkFar(random);
        for (int i = 0; i < 20 * objects; i++) {
            checkText(random, i);
        }
        System.out.println(checked + " answers, " + wrong + " not as due");
        if (wrong != 0) {
            System.exit(1);
        }
    }
}
