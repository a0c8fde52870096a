import java.lang.reflect.Array;
import java.lang.reflect.Constructor;
import java.lang.reflect.Field;
import java.lang.reflect.Method;
import java.lang.reflect.Modifier;
import java.nio.file.Files;
import java.nio.file.Path;
import java.util.ArrayList;
import java.util.Arrays;
import java.util.IdentityHashMap;
import java.util.List;
import java.util.Map;
import java.util.Set;
import java.util.TreeSet;

/** The document's public face and no more of it, some rules of LANGUAGE.md, and how much room an object takes. */
public final class FaceAndRoom {
    private static final String[] FACE = {
        "reader int int int", "write long int", "erase", "fault int", "moves int", "move int int int int", "drop int int int",
        "letter int", "row long int", "run int int", "said int int", "table int int int", "like int int", "kinds int",
        "many int int", "of int int int int", "rank int", "fewest int", "alike int int int", "shortest int int",
        "round int int", "parted int", "otherwise int int", "most int int", "count int"};
    private static final String[] FORBIDDEN = {"throw", "try", "catch", "finally", "synchronized", "assert", "Random", "Thread",
        "currentTimeMillis", "nanoTime", "hashCode", "toString", "->", "::", "@Override"};
    private static int wrong = 0;

    private static void hold(String what, boolean holds) {
        if (!holds) {
            wrong++;
            System.out.println("does not hold: " + what);
        }
    }

    private static void face() throws Exception {
        Class<?> c = BothWays.class;
        hold("public final", Modifier.isPublic(c.getModifiers()) && Modifier.isFinal(c.getModifiers()));
        Constructor<?>[] constructors = c.getDeclaredConstructors();
        hold("one public constructor without parameters", constructors.length == 1
            && Modifier.isPublic(constructors[0].getModifiers()) && constructors[0].getParameterCount() == 0);
        Set<String> names = new TreeSet<>();
        Set<String> told = new TreeSet<>();
        for (Method m : c.getDeclaredMethods()) {
            if (Modifier.isPrivate(m.getModifiers()) || m.isSynthetic()) {
                continue;
            }
            StringBuilder all = new StringBuilder(m.getName());
            for (Class<?> p : m.getParameterTypes()) {
                all.append(' ').append(p.getName());
            }
            hold(m + " is public and answers int", m.getReturnType() == int.class && m.getModifiers() == Modifier.PUBLIC);
            told.add(all.toString());
            names.add(m.getName());
        }
        hold("the methods: " + told, told.equals(new TreeSet<>(Arrays.asList(FACE))));
        String[] constants = {"NONE", "UNKNOWN", "OUTSIDE", "NOT", "FULL", "SPENT"};
        for (int i = 0; i < constants.length; i++) {
            hold(constants[i], c.getField(constants[i]).getInt(null) == -1 - i);
        }
        hold("no other public field", c.getFields().length == constants.length);
        for (Field f : c.getDeclaredFields()) {
            hold(f + " is public or private", Modifier.isPublic(f.getModifiers()) || Modifier.isPrivate(f.getModifiers()));
        }
        inside(c, names);
    }

    private static void inside(Class<?> c, Set<String> names) {
        List<Class<?>> all = new ArrayList<>(Arrays.asList(c.getDeclaredClasses()));
        hold("twelve classes at most", all.size() + 1 <= 12);
        for (Class<?> one : all) {
            hold(one + " is static and not public", Modifier.isStatic(one.getModifiers()) && !Modifier.isPublic(one.getModifiers()));
        }
        all.add(c);
        for (Class<?> one : all) {
            int fields = 0;
            for (Field f : one.getDeclaredFields()) {
                hold(f + " is final if static", !Modifier.isStatic(f.getModifiers()) || Modifier.isFinal(f.getModifiers()));
                fields += Modifier.isStatic(f.getModifiers()) ? 0 : 1;
            }
            hold(one + " has twenty fields at most", fields <= 20);
            for (Method m : one.getDeclaredMethods()) {
                boolean isFace = one == c && Modifier.isPublic(m.getModifiers());
                hold(m + " bears no public name", isFace || m.isSynthetic() || !names.contains(m.getName()));
                hold(m + " has seven parameters at most", m.getParameterCount() <= 7);
            }
        }
    }

    private static void source() throws Exception {
        List<String> lines = Files.readAllLines(Path.of("src/main/java/BothWays.java"));
        for (String line : lines) {
            String code = line.replaceAll("//.*", "").replaceAll("^\\s*(/\\*\\*|\\*).*", "");
            for (String word : FORBIDDEN) {
                String pattern = word.matches("\\w+") ? ".*\\b" + word + "\\b.*" : ".*" + java.util.regex.Pattern.quote(word) + ".*";
                hold("no " + word + " in: " + line, !code.matches(pattern));
            }
            hold("imports: " + line, !code.startsWith("import") || code.equals("import java.util.Arrays;"));
        }
    }

    // ---- room

    private static long objects = 0;
    private static long elements = 0;

    private static void measure(Object thing, Map<Object, Boolean> seen) throws Exception {
        if (thing == null || thing instanceof String || seen.put(thing, true) != null) {
            return;
        }
        objects++;
        Class<?> c = thing.getClass();
        if (c.isArray()) {
            elements += Array.getLength(thing);
            for (int i = 0; i < Array.getLength(thing) && !c.getComponentType().isPrimitive(); i++) {
                measure(Array.get(thing, i), seen);
            }
            return;
        }
        for (Field f : c.getDeclaredFields()) {
            if (!Modifier.isStatic(f.getModifiers())) {
                elements++;
                f.setAccessible(true);
                if (!f.getType().isPrimitive()) {
                    measure(f.get(thing), seen);
                }
            }
        }
    }

    private static void room() throws Exception {
        BothWays x = new BothWays();
        measure(x, new IdentityHashMap<>());
        System.out.println("a new object: " + objects + " objects, " + elements + " elements");
        hold("a new object is small", objects < 50 && elements < 2000);
        for (int reader = 0; reader < 2; reader++) {
            x.letter(0);
            x.like(reader, -1);
            x.many(reader, 10000);
            x.parted(-1);
            x.otherwise(7, -1);
            x.most(reader, 7);
        }
        long before = elementsOf(x);
        System.out.println("one that was asked for all: " + objects + " objects, " + elements + " elements");
        hold("one that was asked for all", objects < 200 && elements < 150000);
        for (int i = 0; i < 100; i++) {
            x.reader(i % 2, 1 + i % 5, 1);
            x.like(0, -1);
            x.many(1, i);
            x.parted(-1);
            x.otherwise(3, -1);
        }
        hold("it grows no more", elementsOf(x) == before);
    }

    private static long elementsOf(Object thing) throws Exception {
        objects = 0;
        elements = 0;
        measure(thing, new IdentityHashMap<>());
        return elements;
    }

    public static void main(String[] args) throws Exception {
        face();
        source();
        room();
        System.out.println(wrong == 0 ? "all holds" : wrong + " do not hold");
        if (wrong != 0) {
            System.exit(1);
        }
    }
}
