import java.io.IOException;
import java.lang.reflect.Constructor;
import java.lang.reflect.Field;
import java.lang.reflect.Method;
import java.lang.reflect.Modifier;
import java.util.Set;
import java.util.TreeSet;

/** The public face is the document's, line by line, and nothing beside it can be seen. */
public final class FaceTest {
    private static final Class<?> MADE = CommunityLevels.class;

    private FaceTest() {
    }

    private static String names(Class<?>[] types, String before) {
        StringBuilder text = new StringBuilder();
        for (int i = 0; i < types.length; i++) {
            text.append(i == 0 ? before : ", ").append(types[i].getSimpleName());
        }
        return text.toString();
    }

    private static String modifiers(int of) {
        return Modifier.toString(of) + " ";
    }

    private static void addMethods(Set<String> seen) {
        for (Method m : MADE.getDeclaredMethods()) {
            if (!Modifier.isPrivate(m.getModifiers())) {
                seen.add(modifiers(m.getModifiers()) + m.getReturnType().getSimpleName() + " " + m.getName()
                    + "(" + names(m.getParameterTypes(), "") + ")" + names(m.getExceptionTypes(), " throws "));
            }
        }
    }

    private static void addOthers(Set<String> seen) throws IllegalAccessException {
        seen.add(modifiers(MADE.getModifiers()) + "class " + MADE.getSimpleName());
        for (Field f : MADE.getDeclaredFields()) {
            if (!Modifier.isPrivate(f.getModifiers())) {
                seen.add(modifiers(f.getModifiers()) + f.getType().getSimpleName() + " " + f.getName() + " = " + f.get(null));
            }
        }
        for (Constructor<?> c : MADE.getDeclaredConstructors()) {
            seen.add(modifiers(c.getModifiers()) + MADE.getSimpleName()
                + "(" + names(c.getParameterTypes(), "") + ")" + names(c.getExceptionTypes(), " throws "));
        }
    }

    private static void sameFace() throws IOException, IllegalAccessException {
        Set<String> due = new TreeSet<>();
        for (String line : Face.lines(Face.document())) {
            due.add(line.replaceAll("\\b(int|long) \\w+(?=[,)])", "$1"));
        }
        Set<String> seen = new TreeSet<>();
        addMethods(seen);
        addOthers(seen);
        Checks.same("lines of the document's face", due.size(), 18);
        Checks.same("the public face", String.join("\n", seen), String.join("\n", due));
    }

    private static void privateNames() {
        Set<String> seen = new TreeSet<>();
        Set<String> hidden = new TreeSet<>();
        for (Method m : MADE.getDeclaredMethods()) {
            (Modifier.isPrivate(m.getModifiers()) ? hidden : seen).add(m.getName());
        }
        hidden.retainAll(seen);
        Checks.same("private methods with a public one's name", hidden.toString(), "[]");
    }

    private static void innerClasses() {
        for (Class<?> inner : MADE.getDeclaredClasses()) {
            int of = inner.getModifiers();
            Checks.same(inner.getName() + " is static", Modifier.isStatic(of) ? 1 : 0, 1);
            Checks.same(inner.getName() + " is public or protected", Modifier.isPublic(of) || Modifier.isProtected(of) ? 1 : 0, 0);
        }
    }

    public static void main(String[] args) throws IOException, IllegalAccessException {
        sameFace();
        privateNames();
        innerClasses();
        Checks.end();
    }
}
