import java.lang.reflect.Constructor;
import java.lang.reflect.Field;
import java.lang.reflect.Method;
import java.lang.reflect.Modifier;
import java.util.List;
import java.util.TreeSet;

/** The public face is the document's, and nothing beside it can be seen. */
public final class FaceTest {
    private static final String[] FACE = {
        "int about(int,int) IndexOutOfBoundsException",
        "int community(int,int) IndexOutOfBoundsException",
        "int level(int,int) IndexOutOfBoundsException",
        "int levels()",
        "int move(int,int) IndexOutOfBoundsException",
        "int moves()",
        "int place(int,int) IndexOutOfBoundsException",
        "int run()",
        "int weigh(int,int,int) IndexOutOfBoundsException IllegalArgumentException",
        "long gain(int,int) IndexOutOfBoundsException",
        "long gained(int) IndexOutOfBoundsException",
        "long modularity(int) IndexOutOfBoundsException",
        "long own()",
        "void nodes(int) IllegalArgumentException",
        "void take(int) IndexOutOfBoundsException"};

    private FaceTest() {
    }

    private static String names(Class<?>[] types, String before, String between) {
        StringBuilder text = new StringBuilder();
        for (int i = 0; i < types.length; i++) {
            text.append(i == 0 ? before : between).append(types[i].getSimpleName());
        }
        return text.toString();
    }

    private static void methods() {
        TreeSet<String> seen = new TreeSet<>();
        TreeSet<String> publicNames = new TreeSet<>();
        TreeSet<String> privateNames = new TreeSet<>();
        for (Method m : CommunityLevels.class.getDeclaredMethods()) {
            if (Modifier.isPrivate(m.getModifiers())) {
                privateNames.add(m.getName());
                continue;
            }
            publicNames.add(m.getName());
            seen.add(m.getReturnType().getSimpleName() + " " + m.getName() + "(" + names(m.getParameterTypes(), "", ",") + ")"
                + names(m.getExceptionTypes(), " ", " "));
            Checks.same(m.getName() + " is public, and nothing else", m.getModifiers(), Modifier.PUBLIC);
        }
        Checks.same("the methods", seen.toString(), new TreeSet<>(List.of(FACE)).toString());
        privateNames.retainAll(publicNames);
        Checks.same("private methods with a public one's name", privateNames.toString(), "[]");
    }

    private static void others() {
        StringBuilder fields = new StringBuilder();
        for (Field f : CommunityLevels.class.getDeclaredFields()) {
            if (!Modifier.isPrivate(f.getModifiers())) {
                fields.append(Modifier.toString(f.getModifiers())).append(' ').append(f.getType()).append(' ').append(f.getName());
            }
        }
        Checks.same("the constants", fields.toString(), "public static final int NONE");
        Checks.same("NONE", CommunityLevels.NONE, -1);
        Constructor<?>[] made = CommunityLevels.class.getDeclaredConstructors();
        Checks.same("constructors", made.length, 1);
        Checks.same("the constructor", made[0].toString(), "public CommunityLevels()");
        Checks.same("the class", Modifier.toString(CommunityLevels.class.getModifiers()), "public final");
        for (Class<?> inner : CommunityLevels.class.getDeclaredClasses()) {
            Checks.same(inner.getName() + " is static", Modifier.isStatic(inner.getModifiers()) ? 1 : 0, 1);
        }
    }

    public static void main(String[] args) {
        methods();
        others();
        Checks.end();
    }
}
