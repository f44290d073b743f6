import java.lang.reflect.Constructor;
import java.lang.reflect.Field;
import java.lang.reflect.Method;
import java.lang.reflect.Modifier;
import java.util.Set;
import java.util.TreeSet;

/** The document's face, and nothing open beside it (rule 1 of ../shared/LANGUAGE.md). */
public final class FaceTest {
    private static final Due DUE = new Due();

    private static final Set<String> METHODS = Set.of(
            "int nut(int,int,int,int)", "int say(int)", "int wipe()", "int fault()", "int judge(int)",
            "int behind(int,int)", "int child(int,int)", "int street(int)", "int first(int)", "int done()",
            "int fight(int,int,int)", "int round(int,int)", "int cup(int)", "int harder(int,int)",
            "int forget()", "int orders(int)", "int ask(int)", "int row(int,int)",
            "long lot(int,int,int,int,int)", "int year(int,int,int)", "int image(int)", "int restore(int)",
            "int told(int)");

    public static void main(String[] args) {
        constants();
        members();
        DUE.end();
    }

    private static void constants() {
        DUE.is("UNKNOWN", StringNuts.UNKNOWN, -1);
        DUE.is("OUTSIDE", StringNuts.OUTSIDE, -2);
        DUE.is("STATE", StringNuts.STATE, -3);
        DUE.is("FULL", StringNuts.FULL, -4);
        DUE.is("NO", StringNuts.NO, -5);
        DUE.is("NONE", StringNuts.NONE, -6);
        DUE.is("GONE", StringNuts.GONE, -1000000000000000000L);
    }

    private static void members() {
        Class<?> face = StringNuts.class;
        DUE.that("the class is public and final",
                Modifier.isPublic(face.getModifiers()) && Modifier.isFinal(face.getModifiers()));
        Set<String> found = new TreeSet<>();
        Set<String> names = new TreeSet<>();
        for (Method method : face.getDeclaredMethods()) {
            if (Modifier.isPublic(method.getModifiers())) {
                String text = method.toString().replace("public ", "").replace("StringNuts.", "");
                found.add(text);
                names.add(method.getName());
            }
        }
        DUE.that("the public methods are " + new TreeSet<>(METHODS) + ", not " + found, found.equals(METHODS));
        for (Method method : face.getDeclaredMethods()) {
            boolean open = Modifier.isPublic(method.getModifiers());
            DUE.that(method + " is public or private", open || Modifier.isPrivate(method.getModifiers()));
            DUE.that(method + " has a name of its own", open || !names.contains(method.getName()));
        }
        Set<String> constants = new TreeSet<>();
        for (Field field : face.getDeclaredFields()) {
            int modifiers = field.getModifiers();
            if (!Modifier.isPrivate(modifiers)) {
                constants.add(field.getName());
                DUE.that(field + " is public and static", Modifier.isPublic(modifiers) && Modifier.isStatic(modifiers));
            }
            DUE.that(field + " is final, if static", !Modifier.isStatic(modifiers) || Modifier.isFinal(modifiers));
        }
        DUE.that("the open fields are the constants, not " + constants,
                constants.equals(Set.of("UNKNOWN", "OUTSIDE", "STATE", "FULL", "NO", "NONE", "GONE")));
        Constructor<?>[] constructors = face.getDeclaredConstructors();
        DUE.is("constructors", constructors.length, 1);
        DUE.is("the constructor's parameters", constructors[0].getParameterCount(), 0);
        DUE.that("the constructor is public", Modifier.isPublic(constructors[0].getModifiers()));
        for (Class<?> inner : face.getDeclaredClasses()) {
            for (Method method : inner.getDeclaredMethods()) {
                DUE.that(method + " has a name of its own", !names.contains(method.getName()));
            }
        }
    }
}
