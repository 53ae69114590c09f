import java.lang.reflect.Constructor;
import java.lang.reflect.Field;
import java.lang.reflect.Method;
import java.lang.reflect.Modifier;
import java.util.Set;
import java.util.TreeSet;

/** The document's public face, and no other member that can be seen from outside. */
final class FaceTest {
    private static final String[] DUE = {
        "void partition(int, int, int, int, int) throws ISE, IAE",
        "int window(int, int) throws ISE, IAE",
        "void channel(int, int, int, int) throws ISE, IAE",
        "int poke(int, int, int) throws ISE, IAE, IOOBE",
        "int peek(int, int) throws IAE, IOOBE",
        "int seal() throws ISE",
        "int step(int) throws ISE, IAE",
        "int told(int, int) throws IAE",
        "int has(int, int) throws IAE",
        "int queued(int, int) throws IAE",
        "int current()",
        "int ticks()",
        "PartitionKernel()",
        "static final int NONE",
    };

    public static void main(String[] args) {
        Check check = new Check();
        Set<String> seen = new TreeSet<>();
        Class<?> face = PartitionKernel.class;
        for (Method m : face.getDeclaredMethods()) {
            if (!Modifier.isPrivate(m.getModifiers())) {
                seen.add(signature(m));
            }
        }
        for (Constructor<?> c : face.getDeclaredConstructors()) {
            seen.add(c.getName() + list("(", c.getParameterTypes(), ")"));
        }
        for (Field f : face.getDeclaredFields()) {
            if (!Modifier.isPrivate(f.getModifiers())) {
                seen.add("static final " + f.getType().getName() + " " + f.getName());
            }
        }
        check.due("the face", seen.toString(), new TreeSet<>(Set.of(DUE)).toString());
        check.due("final", Modifier.isFinal(face.getModifiers()) ? 1 : 0, 1);
        check.due("public", Modifier.isPublic(face.getModifiers()) ? 1 : 0, 1);
        check.due("NONE", PartitionKernel.NONE, -1);
        check.end();
    }

    private static String signature(Method m) {
        String thrown = m.getExceptionTypes().length == 0 ? "" : list(" throws ", m.getExceptionTypes(), "");
        return m.getReturnType().getName() + " " + m.getName() + list("(", m.getParameterTypes(), ")") + thrown;
    }

    private static String list(String before, Class<?>[] types, String behind) {
        StringBuilder text = new StringBuilder();
        for (Class<?> type : types) {
            text.append(text.length() == 0 ? "" : ", ").append(shortName(type));
        }
        return before + text + behind;
    }

    private static String shortName(Class<?> type) {
        return type.getSimpleName().equals("int") ? "int" : type.getSimpleName().replaceAll("[a-z]", "");
    }
}
