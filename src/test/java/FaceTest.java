import java.lang.reflect.Constructor;
import java.lang.reflect.Field;
import java.lang.reflect.Method;
import java.lang.reflect.Modifier;
import java.util.Arrays;
import java.util.Set;
import java.util.TreeSet;
import java.util.stream.Collectors;

/** The face is that of the document, and nothing else is seen from outside (LANGUAGE.md, 1). */
final class FaceTest {
    private static final String[] DUE = {
        "int fencer(int, int)", "int form(int)", "int of(int, int)", "void start(int, int)",
        "int pass(int)", "boolean hit(int, int)", "int card(int, int, int)",
        "int ofBout(int, int)", "int reason(int)", "int next()", "int many(int)",
        "int order(int, int)", "int draw(int)", "int line(int)", "int place(int)",
        "double meanScore()", "int aheadWith(int, int, int)", "int meet(int, int)",
        "int winnerIn(int, int)", "int voidWith(int)", "long digest()"
    };

    public static void main(String[] args) {
        Check c = new Check("face");
        int modifiers = Pommel.class.getModifiers();
        c.yes("public and final", Modifier.isPublic(modifiers) && Modifier.isFinal(modifiers));
        Constructor<?>[] constructors = Pommel.class.getDeclaredConstructors();
        c.same("constructors", constructors.length, 1);
        c.yes("one without parameters", Modifier.isPublic(constructors[0].getModifiers())
                && constructors[0].getParameterCount() == 0);
        Set<String> seen = new TreeSet<>();
        Set<String> names = new TreeSet<>();
        for (Method m : Pommel.class.getDeclaredMethods()) {
            if (!Modifier.isPrivate(m.getModifiers())) {
                seen.add(written(m));
                names.add(m.getName());
            }
        }
        c.yes("methods " + seen, seen.equals(new TreeSet<>(Arrays.asList(DUE))));
        for (Method m : Pommel.class.getDeclaredMethods()) {
            if (Modifier.isPrivate(m.getModifiers())) {
                c.yes(m.getName() + " is no public name", !names.contains(m.getName()));
            }
        }
        for (Field f : Pommel.class.getDeclaredFields()) {
            c.yes(f.getName() + " is private", Modifier.isPrivate(f.getModifiers()));
        }
        for (Class<?> inside : Pommel.class.getDeclaredClasses()) {
            c.yes(inside.getName() + " is private and static",
                    Modifier.isPrivate(inside.getModifiers())
                    && Modifier.isStatic(inside.getModifiers()));
        }
        c.end();
    }

    private static String written(Method m) {
        String parameters = Arrays.stream(m.getParameterTypes()).map(Class::getName)
                .collect(Collectors.joining(", "));
        return m.getReturnType().getName() + " " + m.getName() + "(" + parameters + ")";
    }
}
