import java.net.URL;
import java.net.URLClassLoader;
import java.nio.file.Files;
import java.nio.file.Path;
import java.util.ArrayList;
import java.util.Comparator;
import java.util.List;
import java.util.regex.Matcher;
import java.util.regex.Pattern;
import java.util.stream.Collectors;
import java.util.stream.Stream;
import javax.tools.ToolProvider;

/** README's example: its Java compiles, each call answers the number behind it, and all calls of the face are named. */
public final class ReadmeHolds {
    private static final Pattern ANSWERED = Pattern.compile("(x\\.\\w+\\(.*\\));\\s+// (-?\\d+): .*");

    private static List<String> blocks(String page) {
        List<String> blocks = new ArrayList<>();
        Matcher found = Pattern.compile("```java\n(.*?)```", Pattern.DOTALL).matcher(page);
        while (found.find()) {
            blocks.add(found.group(1));
        }
        return blocks;
    }

    /** A class that makes the example's calls, and tells those that answer another number. */
    private static String program(String helper, String example) {
        StringBuilder all = new StringBuilder("public final class Example {\npublic static int wrong = 0, asked = 0;\n");
        all.append("static void due(String call, int got, int want) { asked++; if (got != want) { wrong++; ")
            .append("System.out.println(call + \" answered \" + got + \", README says \" + want); } }\n");
        all.append(helper).append("public static void go() {\n");
        for (String line : example.split("\n")) {
            Matcher answered = ANSWERED.matcher(line);
            if (answered.matches()) {
                String call = answered.group(1);
                all.append("due(\"").append(call).append("\", ").append(call).append(", ").append(answered.group(2)).append(");\n");
            } else {
                all.append(line).append('\n');
            }
        }
        return all.append("}\n}\n").toString();
    }

    private static void run(String source) throws Exception {
        Path dir = Files.createTempDirectory("readme");
        try {
            Path file = dir.resolve("Example.java");
            Files.writeString(file, source);
            int compiled = ToolProvider.getSystemJavaCompiler()
                .run(null, null, null, "-d", dir.toString(), "src/main/java/BothWays.java", file.toString());
            Subject.check("README's example compiles", compiled, 0);
            if (compiled != 0) {
                return;
            }
            try (URLClassLoader loader = new URLClassLoader(new URL[] {dir.toUri().toURL()}, null)) {
                Class<?> example = loader.loadClass("Example");
                example.getMethod("go").invoke(null);
                Subject.check("answers that README has wrong", example.getField("wrong").getInt(null), 0);
                Subject.check("answers that README tells", example.getField("asked").getInt(null), 18);
            }
        } finally {
            List<Path> made;
            try (Stream<Path> all = Files.walk(dir)) {
                made = all.sorted(Comparator.reverseOrder()).collect(Collectors.toList());
            }
            for (Path one : made) {
                Files.delete(one);
            }
        }
    }

    public static void main(String[] args) throws Exception {
        Subject.sentence("README.md says how to use the class");
        String page = Files.readString(Path.of("README.md"));
        List<String> blocks = blocks(page);
        Subject.check("blocks of Java in README", blocks.size(), 2);
        for (java.lang.reflect.Method m : BothWays.class.getDeclaredMethods()) {
            if (java.lang.reflect.Modifier.isPublic(m.getModifiers())) {
                Subject.check("README names " + m.getName(), page.contains("`" + m.getName() + "`") ? 1 : 0, 1);
            }
        }
        if (blocks.size() == 2) {
            run(program(blocks.get(0), blocks.get(1)));
        }
        Subject.finish();
    }
}
