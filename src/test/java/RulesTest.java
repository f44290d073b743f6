import java.lang.reflect.Array;
import java.lang.reflect.Constructor;
import java.lang.reflect.Executable;
import java.lang.reflect.Field;
import java.lang.reflect.Modifier;
import java.nio.file.Files;
import java.nio.file.Path;
import java.util.ArrayList;
import java.util.Arrays;
import java.util.HashMap;
import java.util.HashSet;
import java.util.IdentityHashMap;
import java.util.List;
import java.util.Map;
import java.util.Set;
import java.util.TreeMap;
import java.util.regex.Matcher;
import java.util.regex.Pattern;

/** Those rules of ../shared/LANGUAGE.md that can be read off the source or the compiled classes. */
public final class RulesTest {
    private static final Due DUE = new Due();

    private static final int MOST_PARAMETERS = 7;
    private static final int MOST_LINES = 60;
    private static final int MOST_DEPTH = 8;
    private static final int MOST_CLASSES = 12;
    private static final int MOST_FIELDS = 20;
    /** By our own measure: a run that makes a new object by each of 512 calls stays far below the room. */
    private static final int MOST_OBJECTS_OF_ONE = 100;
    private static final int MOST_PLACES_OF_ONE = 2000;

    private static final Pattern HEADER = Pattern.compile(
            "(    |        )(?:(?:public|private|static|final) )*(?:int|long|boolean|void|[A-Z]\\w*) (\\w+)\\([^)]*\\) \\{");
    private static final Pattern CALL = Pattern.compile("\\b(\\w+)\\(");

    /** By name: the lines between a method's braces. Methods of one name are taken as one, which is stricter. */
    private static final Map<String, List<String>> BODIES = new TreeMap<>();

    public static void main(String[] args) throws Exception {
        String code = withoutComments(Files.readString(Path.of("src/main/java/StringNuts.java")));
        readMethods(code);
        nestedClasses();
        types();
        words(code);
        loopsWithoutCounter(code);
        sizes();
        depths();
        rowsAreMadeOnce(code);
        roomOfOneObject();
        DUE.end();
    }

    private static String withoutComments(String source) {
        return source.replaceAll("(?s)/\\*.*?\\*/", " ").replaceAll("//[^\n]*", " ");
    }

    private static void readMethods(String code) {
        String[] lines = code.split("\n");
        for (int at = 0; at < lines.length; at++) {
            Matcher header = HEADER.matcher(lines[at].stripTrailing());
            if (header.matches()) {
                String end = header.group(1) + "}";
                List<String> body = new ArrayList<>();
                for (at++; at < lines.length && !lines[at].stripTrailing().equals(end); at++) {
                    body.add(lines[at]);
                }
                DUE.that(header.group(2) + " has " + MOST_LINES + " lines at most", body.size() + 2 <= MOST_LINES);
                BODIES.computeIfAbsent(header.group(2), name -> new ArrayList<>()).addAll(body);
            }
        }
        for (Class<?> own : StringNuts.class.getNestMembers()) {
            Arrays.stream(own.getDeclaredMethods())
                    .forEach(method -> DUE.that(method + " was found in the source", BODIES.containsKey(method.getName())));
        }
    }

    /** Rules 2 and 11. */
    private static void nestedClasses() {
        Set<Class<?>> nest = new HashSet<>(List.of(StringNuts.class.getNestMembers()));
        DUE.that("at most " + MOST_CLASSES + " classes", nest.size() <= MOST_CLASSES);
        nest.remove(StringNuts.class);
        DUE.that("no local, anonymous or deeper class",
                nest.equals(new HashSet<>(List.of(StringNuts.class.getDeclaredClasses()))));
        for (Class<?> inner : nest) {
            DUE.that(inner + " is static", Modifier.isStatic(inner.getModifiers()));
            DUE.that(inner + " is not open to others",
                    !Modifier.isPublic(inner.getModifiers()) && !Modifier.isProtected(inner.getModifiers()));
        }
    }

    /** Rules 3 and 5: numbers, rows of numbers, own classes; what is static is a constant number. */
    private static void types() {
        Set<Class<?>> own = new HashSet<>(List.of(StringNuts.class.getNestMembers()));
        Set<Class<?>> numbers = Set.of(int.class, long.class, boolean.class, int[].class);
        for (Class<?> owner : own) {
            int fields = 0;
            for (Field field : owner.getDeclaredFields()) {
                if (Modifier.isStatic(field.getModifiers())) {
                    DUE.that(field + " is a constant", Modifier.isFinal(field.getModifiers())
                            && (field.getType() == int.class || field.getType() == long.class));
                } else {
                    fields++;
                    DUE.that(field + " is of an allowed type",
                            numbers.contains(field.getType()) || own.contains(field.getType()));
                }
            }
            DUE.that(owner + " has " + MOST_FIELDS + " fields at most", fields <= MOST_FIELDS);
        }
    }

    /** Rules 3, 4, 6 and 13. */
    private static void words(String code) {
        String[] banned = {"throw", "throws", "try", "catch", "synchronized", "assert", "import", "package",
            "protected", "native", "volatile", "transient", "strictfp", "double", "float", "null",
            "hashCode", "toString", "Exact", "System", "Thread", "Random", "Object", "var"};
        for (String word : banned) {
            DUE.that("no word " + word, !Pattern.compile("\\b" + word + "\\b").matcher(code).find());
        }
        DUE.that("no lambda", !code.contains("->"));
        DUE.that("no method reference", !code.contains("::"));
        DUE.that("no annotation", !code.contains("@"));
        DUE.that("no text", !code.contains("\""));
        Matcher calls = Pattern.compile("\\b(Math|Integer|Long)\\.(\\w+)").matcher(code);
        while (calls.find()) {
            DUE.that("of the library " + calls.group(), Set.of("max", "min", "bitCount").contains(calls.group(2)));
        }
    }

    /** Rule 9. */
    private static void loopsWithoutCounter(String code) {
        DUE.that("no loop without an end",
                !Pattern.compile("while\\s*\\(\\s*true|for\\s*\\(\\s*;\\s*;").matcher(code).find());
    }

    /** Rule 11. */
    private static void sizes() {
        for (Class<?> owner : StringNuts.class.getNestMembers()) {
            List<Executable> all = new ArrayList<>(List.of(owner.getDeclaredMethods()));
            for (Constructor<?> constructor : owner.getDeclaredConstructors()) {
                all.add(constructor);
            }
            for (Executable one : all) {
                DUE.that(one + " has " + MOST_PARAMETERS + " parameters at most",
                        one.getParameterCount() <= MOST_PARAMETERS);
            }
        }
    }

    /** Rules 8 and 11: nothing calls itself, and calls go eight deep at most. */
    private static void depths() {
        Map<String, Integer> known = new HashMap<>();
        for (String name : BODIES.keySet()) {
            int depth = depthOf(name, known, new ArrayList<>());
            DUE.that(name + " goes " + MOST_DEPTH + " calls deep at most, not " + depth, depth <= MOST_DEPTH);
        }
    }

    private static int depthOf(String name, Map<String, Integer> known, List<String> open) {
        if (open.contains(name)) {
            DUE.that(name + " calls itself, by " + open, false);
            return 0;
        }
        if (!known.containsKey(name)) {
            open.add(name);
            int deepest = 0;
            for (String line : BODIES.get(name)) {
                Matcher calls = CALL.matcher(line);
                while (calls.find()) {
                    if (BODIES.containsKey(calls.group(1))) {
                        deepest = Math.max(deepest, depthOf(calls.group(1), known, open));
                    } else if (line.matches(".*\\b(Math|Integer|Long)\\." + calls.group(1) + "\\(.*")) {
                        deepest = Math.max(deepest, 1);
                    }
                }
            }
            open.remove(name);
            known.put(name, deepest + 1);
        }
        return known.get(name);
    }

    /** Rule 12: all calls of a run live in one room, so objects and rows are made with the object, none by a call. */
    private static void rowsAreMadeOnce(String code) {
        for (String line : code.split("\n")) {
            if (Pattern.compile("\\bnew\\b").matcher(line).find()) {
                DUE.that("made with the object: " + line.strip(), line.matches("\\s+(private )?final \\S+ \\w+ = new .*"));
            }
        }
    }

    private static void roomOfOneObject() throws IllegalAccessException {
        Map<Object, Boolean> seen = new IdentityHashMap<>();
        int places = placesFrom(new StringNuts(), seen);
        DUE.that("an object is of " + MOST_OBJECTS_OF_ONE + " objects at most, not " + seen.size(),
                seen.size() <= MOST_OBJECTS_OF_ONE);
        DUE.that("it has " + MOST_PLACES_OF_ONE + " fields and elements at most, not " + places,
                places <= MOST_PLACES_OF_ONE);
    }

    private static int placesFrom(Object object, Map<Object, Boolean> seen) throws IllegalAccessException {
        if (object == null || seen.put(object, true) != null) {
            return 0;
        }
        if (object.getClass().isArray()) {
            return Array.getLength(object);
        }
        int places = 0;
        for (Field field : object.getClass().getDeclaredFields()) {
            if (!Modifier.isStatic(field.getModifiers())) {
                places++;
                field.setAccessible(true);
                if (!field.getType().isPrimitive()) {
                    places += placesFrom(field.get(object), seen);
                }
            }
        }
        return places;
    }
}
