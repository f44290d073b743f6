import java.lang.reflect.Constructor;
import java.lang.reflect.Field;
import java.lang.reflect.Method;
import java.lang.reflect.Modifier;
import java.nio.file.Files;
import java.nio.file.Path;
import java.util.Set;
import java.util.TreeSet;
import java.util.regex.Matcher;
import java.util.regex.Pattern;

/** The document's face, and those rules of LANGUAGE.md that can be read off the source. */
public final class FaceTest {
    private static final Due DUE = new Due();

    private static final Set<String> METHODS = Set.of(
            "int nut(int,int,int,int)", "int say(int)", "int wipe()", "int fault()", "int judge(int)",
            "int behind(int,int)", "int child(int,int)", "int street(int)", "int first(int)", "int done()",
            "int fight(int,int,int)", "int round(int,int)", "int cup(int)", "int harder(int,int)",
            "int forget()", "int orders(int)", "int ask(int)", "int row(int,int)",
            "long lot(int,int,int,int,int)", "int year(int,int,int)", "int image(int)", "int restore(int)",
            "int told(int)");

    public static void main(String[] args) throws Exception {
        constants();
        members();
        String code = withoutComments(Files.readString(Path.of("src/main/java/StringNuts.java")));
        words(code);
        loopsWithoutCounter(code);
        rowsAreMadeOnce(code);
        DUE.end();
    }

    private static void constants() {
        DUE.is("UNKNOWN", StringNuts.UNKNOWN, -1);
        DUE.is("OUTSIDE", StringNuts.OUTSIDE, -2);
        DUE.is("STATE", StringNuts.STATE, -3);
        DUE.is("FULL", StringNuts.FULL, -4);
        DUE.is("NO", StringNuts.NO, -5);
        DUE.is("NONE", StringNuts.NONE, -6);
        DUE.is("GONE", StringNuts.GONE, -1000000000000000000L);
    }

    private static void members() {
        Class<?> face = StringNuts.class;
        DUE.that("the class is public and final",
                Modifier.isPublic(face.getModifiers()) && Modifier.isFinal(face.getModifiers()));
        Set<String> found = new TreeSet<>();
        Set<String> names = new TreeSet<>();
        for (Method method : face.getDeclaredMethods()) {
            if (Modifier.isPublic(method.getModifiers())) {
                String text = method.toString().replace("public ", "").replace("StringNuts.", "");
                found.add(text);
                names.add(method.getName());
            }
        }
        DUE.that("the public methods are " + new TreeSet<>(METHODS) + ", not " + found, found.equals(METHODS));
        for (Method method : face.getDeclaredMethods()) {
            boolean open = Modifier.isPublic(method.getModifiers());
            DUE.that(method + " is public or private", open || Modifier.isPrivate(method.getModifiers()));
            DUE.that(method + " has a name of its own", open || !names.contains(method.getName()));
        }
        Set<String> constants = new TreeSet<>();
        for (Field field : face.getDeclaredFields()) {
            int modifiers = field.getModifiers();
            if (!Modifier.isPrivate(modifiers)) {
                constants.add(field.getName());
            }
            DUE.that(field + " is final, if static", !Modifier.isStatic(modifiers) || Modifier.isFinal(modifiers));
        }
        DUE.that("the open fields are the constants, not " + constants,
                constants.equals(Set.of("UNKNOWN", "OUTSIDE", "STATE", "FULL", "NO", "NONE", "GONE")));
        Constructor<?>[] constructors = face.getDeclaredConstructors();
        DUE.is("constructors", constructors.length, 1);
        DUE.is("the constructor's parameters", constructors[0].getParameterCount(), 0);
        for (Class<?> inner : face.getDeclaredClasses()) {
            DUE.that(inner + " is static", Modifier.isStatic(inner.getModifiers()));
            for (Method method : inner.getDeclaredMethods()) {
                DUE.that(method + " has a name of its own", !names.contains(method.getName()));
            }
        }
        DUE.that("at most twelve classes", face.getDeclaredClasses().length + 1 <= 12);
    }

    private static String withoutComments(String source) {
        return source.replaceAll("(?s)/\\*.*?\\*/", " ").replaceAll("//[^\n]*", " ");
    }

    private static void words(String code) {
        String[] banned = {"throw", "throws", "try", "catch", "synchronized", "assert", "import", "package",
            "protected", "native", "volatile", "transient", "strictfp", "double", "float", "null",
            "hashCode", "toString", "Exact", "System", "Thread", "Random", "Object", "var"};
        for (String word : banned) {
            DUE.that("no word " + word, !Pattern.compile("\\b" + word + "\\b").matcher(code).find());
        }
        DUE.that("no lambda", !code.contains("->"));
        DUE.that("no method reference", !code.contains("::"));
        DUE.that("no annotation", !code.contains("@"));
        Matcher calls = Pattern.compile("\\b(Math|Integer|Long)\\.(\\w+)").matcher(code);
        while (calls.find()) {
            DUE.that("of the library " + calls.group(), Set.of("max", "min", "bitCount").contains(calls.group(2)));
        }
    }

    /** All calls of a run live in one room: objects and rows are made with the object, none by a call. */
    private static void rowsAreMadeOnce(String code) {
        for (String line : code.split("\n")) {
            if (Pattern.compile("\\bnew\\b").matcher(line).find()) {
                DUE.that("made with the object: " + line.strip(), line.matches("\\s+(private )?final \\S+ \\w+ = new .*"));
            }
        }
    }

    private static void loopsWithoutCounter(String code) {
        DUE.that("no loop without an end",
                !Pattern.compile("while\\s*\\(\\s*true|for\\s*\\(\\s*;\\s*;").matcher(code).find());
    }
}
