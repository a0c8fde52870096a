import java.lang.reflect.Method;
import java.net.URL;
import java.net.URLClassLoader;
import java.nio.file.Files;
import java.nio.file.Path;
import java.util.Comparator;
import java.util.List;
import java.util.stream.Collectors;
import java.util.stream.Stream;
import javax.tools.ToolProvider;

/**
 * "SPENT: more than 800 are unlike in that": no reader of five states comes beyond 769 things that beginnings do, so
 * that the bound itself can't be come to from outside. Here the class is compiled with the bound 6, and with 5, and
 * asked for a reader with 6 such things: all that the document says of SPENT must hold on both sides.
 */
public final class SpentBeginnings {
    private static final int NONE = -1, UNKNOWN = -2, OUTSIDE = -3, NOT = -4, SPENT = -6;
    private static final String BOUND = "BEGINNINGS_MOST = 800";
    /** Counts letters by five: the empty beginning, and one for each number behind it, six in all. */
    private static final String[] BY_FIVE = {
        "0 first right to 0;0 a right to 1;1 a right to 2;2 a right to 3;3 a right to 4;4 a right to 0;0 b right to 1",
        "1 b right to 2;2 b right to 3;3 b right to 4;4 b right to 0;0 c right to 1;1 c right to 2;2 c right to 3",
        "3 c right to 4;4 c right to 0"};

    private final Class<?> type;
    private final Object x;

    private SpentBeginnings(Class<?> type) throws Exception {
        this.type = type;
        x = type.getConstructor().newInstance();
    }

    private int ask(String call, Object... with) throws Exception {
        for (Method m : type.getMethods()) {
            if (m.getName().equals(call) && m.getReturnType() == int.class && m.getParameterCount() == with.length) {
                return (Integer) m.invoke(x, with);
            }
        }
        throw new IllegalArgumentException(call);
    }

    private void due(int want, String call, Object... with) throws Exception {
        Subject.check(call + List.of(with), ask(call, with), want);
    }

    private void tell(int reader) throws Exception {
        due(1, "reader", reader, 5, 16);
        for (String text : BY_FIVE) {
            for (int i = 0; i < text.length(); i += 8) {
                String piece = text.substring(i, Math.min(text.length(), i + 8));
                ask("write", Subject.packed(piece), piece.length());
            }
            ask("moves", reader);
        }
        due(16, "count", 2 + reader);
    }

    private void dueSpent(int reader) throws Exception {
        due(1, "row", 0L, 4);
        due(SPENT, "many", reader, 0);
        due(SPENT, "many", reader, 10000);
        due(SPENT, "of", reader, 0, 0, 0);
        due(SPENT, "of", reader, 12, Integer.MAX_VALUE, Integer.MAX_VALUE);
        due(SPENT, "rank", reader);
        due(SPENT, "fewest", reader);
        due(SPENT, "alike", reader, 0, 0);
        due(SPENT, "alike", reader, 1, 4);
        for (int k = -1; k < 3; k++) {
            due(SPENT, "shortest", reader, k);
            due(SPENT, "round", reader, k);
            due(SPENT, "parted", k);
        }
        Subject.sentence("SPENT: what is ahead of it");
        due(OUTSIDE, "many", reader, 10001);
        due(OUTSIDE, "of", reader, 13, 0, 0);
        due(OUTSIDE, "alike", reader, 0, 5);
        due(OUTSIDE, "shortest", reader, -2);
        due(OUTSIDE, "round", reader, -2);
        due(OUTSIDE, "parted", -2);
        due(UNKNOWN, "many", 2, 0);
        due(UNKNOWN, "fewest", 2);
        due(UNKNOWN, "rank", -1);
        due(1, "row", 0L, 13);
        due(NOT, "rank", reader);
        due(1, "row", 0L, 4);
        Subject.sentence("SPENT of beginnings is no matter for runs, tables and what is tried row by row");
        due(1, "run", reader, 0);
        due(8 + 1, "table", reader, 0, 0);
        due(5, "kinds", reader);
        due(8, "most", reader, 7);
        due(NONE, "otherwise", 7, -1);
        Subject.sentence("SPENT of one of both; the other one is as ever");
        due(0, "many", 1 - reader, 4);
        due(1, "fewest", 1 - reader);
    }

    private static Class<?> withBound(Path at, int bound) throws Exception {
        String source = Files.readString(Path.of("src/main/java/BothWays.java"));
        Subject.check("the bound stands once in the class", source.split(BOUND, -1).length, 2);
        Path dir = Files.createDirectory(at.resolve("bound" + bound));
        Path file = dir.resolve("BothWays.java");
        Files.writeString(file, source.replace(BOUND, "BEGINNINGS_MOST = " + bound));
        int answer = ToolProvider.getSystemJavaCompiler().run(null, null, null, "-d", dir.toString(), file.toString());
        Subject.check("compiling", answer, 0);
        // No parent of the test's own, or the class as it stands would be found there.
        return new URLClassLoader(new URL[] {dir.toUri().toURL()}, ClassLoader.getPlatformClassLoader()).loadClass("BothWays");
    }

    private static void sixOfFive(Class<?> type) throws Exception {
        for (int reader = 0; reader < 2; reader++) {
            Subject.sentence("SPENT: one more than the bound");
            SpentBeginnings s = new SpentBeginnings(type);
            s.tell(reader);
            s.dueSpent(reader);
            Subject.sentence("SPENT: of a reader as it is now");
            s.due(15, "drop", reader, 0, 3);
            s.due(1, "fewest", reader);
            s.due(0, "many", reader, 4);
            s.due(NONE, "parted", -1);
            s.due(1, "reader", reader, 1, 0);
            s.tell(reader);
            s.dueSpent(reader);
        }
    }

    private static void sixOfSix(Class<?> type) throws Exception {
        Subject.sentence("SPENT: not of as many as the bound");
        for (int reader = 0; reader < 2; reader++) {
            SpentBeginnings s = new SpentBeginnings(type);
            s.tell(reader);
            s.due(1, "row", 0L, 4);
            s.due(81, "many", reader, 4);
            s.due(0, "of", reader, 4, 0, 0);
            s.due(0, "rank", reader);
            s.due(5, "fewest", reader);
            s.due(0, "alike", reader, 1, 4);
            s.due(4, "shortest", reader, -1);
            s.due(NONE, "round", reader, -1);
            s.due(4, "parted", -1);
        }
    }

    public static void main(String[] args) throws Exception {
        Path at = Files.createTempDirectory("narrow");
        sixOfFive(withBound(at, 5));
        sixOfSix(withBound(at, 6));
        try (Stream<Path> all = Files.walk(at)) {
            for (Path path : all.sorted(Comparator.reverseOrder()).collect(Collectors.toList())) {
                Files.delete(path);
            }
        }
        Subject.finish();
    }
}
