import java.lang.reflect.Constructor;
import java.lang.reflect.Field;
import java.lang.reflect.Method;
import java.lang.reflect.Modifier;
import java.util.Arrays;
import java.util.Set;
import java.util.TreeSet;
import java.util.stream.Collectors;

/** The face is that of the document, and nothing else is seen from outside (LANGUAGE.md, 1). */
final class FaceTest {
    public static void main(String[] args) {
        Check c = Check.of("face");
        int modifiers = Pommel.class.getModifiers();
        c.yes("public and final", Modifier.isPublic(modifiers) && Modifier.isFinal(modifiers));
        Constructor<?>[] constructors = Pommel.class.getDeclaredConstructors();
        c.same("constructors", constructors.length, 1);
        c.yes("one without parameters", Modifier.isPublic(constructors[0].getModifiers())
                && constructors[0].getParameterCount() == 0);
        Set<String> seen = new TreeSet<>();
        Set<String> names = new TreeSet<>();
        for (Method m : Pommel.class.getDeclaredMethods()) {
            if (!Modifier.isPrivate(m.getModifiers())) {
                seen.add(written(m));
                names.add(m.getName());
            }
        }
        Set<String> due = due();
        c.same("methods of the document", due.size(), 21);
        for (String method : due) {
            c.yes(method, seen.contains(method));
        }
        c.yes("no other method: " + seen, due.containsAll(seen));
        for (Method m : Pommel.class.getDeclaredMethods()) {
            if (Modifier.isPrivate(m.getModifiers())) {
                c.yes(m.getName() + " is no public name", !names.contains(m.getName()));
            }
        }
        for (Field f : Pommel.class.getDeclaredFields()) {
            c.yes(f.getName() + " is private", Modifier.isPrivate(f.getModifiers()));
        }
        for (Class<?> inside : Pommel.class.getDeclaredClasses()) {
            c.yes(inside.getName() + " is private and static",
                    Modifier.isPrivate(inside.getModifiers())
                    && Modifier.isStatic(inside.getModifiers()));
        }
        c.end();
    }

    /** The methods of the document, without the names of their parameters. */
    private static Set<String> due() {
        Set<String> due = new TreeSet<>();
        for (String line : Document.face()) {
            if (line.endsWith(";") && !line.equals("public Pommel();")) {
                due.add(line.replaceAll("^public |;$", "").replaceAll("\\bint \\w+(?=[,)])", "int"));
            }
        }
        return due;
    }

    private static String written(Method m) {
        String raised = names(m.getExceptionTypes());
        return m.getReturnType().getName() + " " + m.getName() + "(" + names(m.getParameterTypes())
                + ")" + (raised.isEmpty() ? "" : " throws " + raised);
    }

    private static String names(Class<?>[] types) {
        return Arrays.stream(types).map(Class::getSimpleName).collect(Collectors.joining(", "));
    }
}
