import java.io.IOException;
import java.lang.reflect.Method;
import java.lang.reflect.Modifier;
import java.net.URL;
import java.net.URLClassLoader;
import java.nio.file.Files;
import java.nio.file.Path;
import java.util.ArrayList;
import java.util.List;
import java.util.Set;
import java.util.TreeSet;
import java.util.regex.Matcher;
import java.util.regex.Pattern;
import java.util.stream.Stream;
import javax.tools.JavaCompiler;
import javax.tools.ToolProvider;

/**
 * README.md says what is so: its pieces of Java are compiled as they stand and run, and each call must
 * answer what its remark says; every call of the class and every test of the project is told of there.
 */
public final class ReadmeTest {
    private static final Due DUE = new Due();

    private static final Path BUILD = Path.of("build/readme");
    private static final Pattern PIECE = Pattern.compile("(?m)^```java\n(.*?)^```$", Pattern.DOTALL);
    /** A call at the margin, and its answer; behind that, in brackets, the constants that it is the sum of. */
    private static final Pattern ANSWERED =
            Pattern.compile("(nuts\\.(\\w+)\\(.*\\)); +// (-?\\d+)(?: \\(([A-Z]+)(?: and ([A-Z]+))?\\))?(?:: .*)?");
    private static final Pattern TEST_NAME = Pattern.compile("`(\\w+Test)`");

    private record Asked(String call, long answer) { }

    public static void main(String[] args) throws Exception {
        String readme = Files.readString(Path.of("README.md"));
        Set<String> shown = new TreeSet<>();
        List<List<Asked>> asked = new ArrayList<>();
        StringBuilder source = new StringBuilder("public final class ReadmePieces {\n");
        Matcher pieces = PIECE.matcher(readme);
        while (pieces.find()) {
            asked.add(addPiece(source, asked.size(), pieces.group(1), shown));
        }
        source.append("}\n");
        DUE.that("README.md shows the class's use", !asked.isEmpty());
        Class<?> compiled = compile(source.toString());
        for (int piece = 0; compiled != null && piece < asked.size(); piece++) {
            compare(piece, asked.get(piece), compiled);
        }
        everyCallIsTold(readme, shown);
        everyTestIsTold(readme);
        DUE.that(".ci/run can be run", readme.contains("\n.ci/run\n") && Files.isExecutable(Path.of(".ci/run")));
        DUE.end();
    }

    /** Each piece becomes a method that answers what its calls answered. */
    private static List<Asked> addPiece(StringBuilder source, int number, String piece, Set<String> shown) {
        List<Asked> asked = new ArrayList<>();
        source.append("public static java.util.List<Long> piece").append(number).append("() {\n")
                .append("java.util.List<Long> answers = new java.util.ArrayList<>();\n");
        for (String line : piece.split("\n")) {
            Matcher answered = ANSWERED.matcher(line);
            if (answered.matches()) {
                asked.add(new Asked(answered.group(1), Long.parseLong(answered.group(3))));
                shown.add(answered.group(2));
                constantsAreAsSaid(line, answered);
                source.append("answers.add((long) ").append(answered.group(1)).append(");\n");
            } else {
                DUE.that("README.md tells the answer: " + line, !line.startsWith("nuts."));
                source.append(line).append("\n");
            }
        }
        source.append("return answers;\n}\n");
        return asked;
    }

    private static void constantsAreAsSaid(String line, Matcher answered) {
        if (answered.group(4) != null) {
            long sum = constant(answered.group(4)) + (answered.group(5) == null ? 0 : constant(answered.group(5)));
            DUE.is("README.md, the constants of: " + line, Long.parseLong(answered.group(3)), sum);
        }
    }

    private static long constant(String name) {
        try {
            return ((Number) StringNuts.class.getField(name).get(null)).longValue();
        } catch (ReflectiveOperationException none) {
            DUE.that("README.md: there is a constant " + name, false);
            return 0;
        }
    }

    private static Class<?> compile(String source) throws IOException, ReflectiveOperationException {
        JavaCompiler compiler = ToolProvider.getSystemJavaCompiler();
        DUE.that("java comes with its compiler", compiler != null);
        if (compiler == null) {
            return null;
        }
        Files.createDirectories(BUILD);
        Path file = BUILD.resolve("ReadmePieces.java");
        Files.writeString(file, source);
        int failed = compiler.run(null, null, null, "-cp", System.getProperty("java.class.path"),
                "-d", BUILD.toString(), file.toString());
        DUE.is("README.md's Java compiles", failed, 0);
        if (failed != 0) {
            return null;
        }
        URL[] places = {BUILD.toUri().toURL()};
        return new URLClassLoader(places).loadClass("ReadmePieces");
    }

    private static void compare(int piece, List<Asked> asked, Class<?> compiled) throws ReflectiveOperationException {
        List<?> answers = (List<?>) compiled.getMethod("piece" + piece).invoke(null);
        DUE.is("README.md, answers of piece " + piece, answers.size(), asked.size());
        for (int at = 0; at < asked.size() && at < answers.size(); at++) {
            DUE.is("README.md, piece " + piece + ", " + asked.get(at).call, (Long) answers.get(at), asked.get(at).answer);
        }
    }

    /** Shown in use with an answer, and named with its parameters' number in the table of calls. */
    private static void everyCallIsTold(String readme, Set<String> shown) {
        for (Method method : StringNuts.class.getDeclaredMethods()) {
            if (Modifier.isPublic(method.getModifiers())) {
                String name = method.getName();
                DUE.that("README.md shows " + name, shown.contains(name));
                int parameters = method.getParameterCount();
                String list = parameters == 0 ? "" : "\\w+" + "(, \\w+)".repeat(parameters - 1) + "";
                DUE.that("README.md's table has " + name + " of " + parameters,
                        Pattern.compile("(?m)^\\| `" + name + "\\(" + list + "\\)` \\|").matcher(readme).find());
            }
        }
    }

    private static void everyTestIsTold(String readme) throws IOException {
        Set<String> told = new TreeSet<>();
        Matcher names = TEST_NAME.matcher(readme);
        while (names.find()) {
            told.add(names.group(1));
        }
        Set<String> there = new TreeSet<>();
        try (Stream<Path> files = Files.list(Path.of("src/test/java"))) {
            files.map(file -> file.getFileName().toString()).filter(name -> name.endsWith("Test.java"))
                    .forEach(name -> there.add(name.replace(".java", "")));
        }
        DUE.that("README.md tells of the tests " + there + ", not " + told, told.equals(there));
    }
}
