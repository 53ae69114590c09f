import java.lang.reflect.Constructor;
import java.lang.reflect.Field;
import java.lang.reflect.Method;
import java.lang.reflect.Modifier;
import java.util.Set;
import java.util.TreeSet;

/** The document's public face, and no other member that can be seen from outside. */
final class FaceTest {
    private static final String[] DUE = {
        "void partition(int, int, int, int, int) throws ISE, IAE",
        "int window(int, int) throws ISE, IAE",
        "void channel(int, int, int, int) throws ISE, IAE",
        "int poke(int, int, int) throws ISE, IAE, IOOBE",
        "int peek(int, int) throws IAE, IOOBE",
        "int seal() throws ISE",
        "int step(int) throws ISE, IAE",
        "int told(int, int) throws IAE",
        "int has(int, int) throws IAE",
        "int queued(int, int) throws IAE",
        "int current()",
        "int ticks()",
        "PartitionKernel()",
        "public static final int NONE",
    };

    private static final Class<?> FACE = PartitionKernel.class;

    public static void main(String[] args) {
        Check check = new Check();
        check.sentence("public final class PartitionKernel", FaceTest::classIsPublicAndFinal);
        check.sentence("public static final int NONE = -1;", FaceTest::noneIsBelowZero);
        check.sentence("The public face", FaceTest::members);
        check.end();
    }

    private static void classIsPublicAndFinal(Check check) {
        check.due("final", Modifier.isFinal(FACE.getModifiers()) ? 1 : 0, 1);
        check.due("public", Modifier.isPublic(FACE.getModifiers()) ? 1 : 0, 1);
    }

    private static void noneIsBelowZero(Check check) {
        check.due("NONE", PartitionKernel.NONE, -1);
    }

    private static void members(Check check) {
        Set<String> seen = new TreeSet<>();
        for (Method m : FACE.getDeclaredMethods()) {
            if (!Modifier.isPrivate(m.getModifiers())) {
                seen.add(signature(m));
            }
        }
        for (Constructor<?> c : FACE.getDeclaredConstructors()) {
            seen.add(c.getName() + list("(", c.getParameterTypes(), ")"));
        }
        for (Field f : FACE.getDeclaredFields()) {
            if (!Modifier.isPrivate(f.getModifiers())) {
                seen.add(Modifier.toString(f.getModifiers()) + " " + f.getType().getName() + " " + f.getName());
            }
        }
        check.due("the face", seen.toString(), new TreeSet<>(Set.of(DUE)).toString());
    }

    private static String signature(Method m) {
        String thrown = m.getExceptionTypes().length == 0 ? "" : list(" throws ", m.getExceptionTypes(), "");
        String notPublic = Modifier.isPublic(m.getModifiers()) ? "" : "hidden ";
        return notPublic + m.getReturnType().getName() + " " + m.getName() + list("(", m.getParameterTypes(), ")") + thrown;
    }

    private static String list(String before, Class<?>[] types, String behind) {
        StringBuilder text = new StringBuilder();
        for (Class<?> type : types) {
            text.append(text.length() == 0 ? "" : ", ").append(shortName(type));
        }
        return before + text + behind;
    }

    private static String shortName(Class<?> type) {
        return type.getSimpleName().equals("int") ? "int" : type.getSimpleName().replaceAll("[a-z]", "");
    }
}
