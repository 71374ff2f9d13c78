import java.lang.reflect.Constructor;
import java.lang.reflect.Executable;
import java.lang.reflect.Field;
import java.lang.reflect.Method;
import java.lang.reflect.Modifier;
import java.util.Set;
import java.util.TreeSet;

/** The public face: just what the document declares, and nothing else that is not private. */
public final class FaceTest {
    private static final String[] FACE = {
        "HashHall()",
        "long put(int, int, int)",
        "long add(int, int, int)",
        "long get(int, int)",
        "long give(int, int, int)",
        "long remove(int, int)",
        "boolean take(int, int, int)",
        "boolean has(int, int, int)",
        "int size(int)",
        "int clear(int)",
        "int pour(int, int)",
        "long entry(int, int, int)",
        "long sum(int)",
        "int sweep(int, int, int)",
        "int raise(int, int)",
        "boolean same(int, int)",
        "int fill(int, int, int, int)",
    };

    public static void main(String[] args) {
        Due due = new Due();
        Set<String> want = new TreeSet<>(Set.of(FACE));
        Set<String> got = new TreeSet<>();
        for (Constructor<?> made : HashHall.class.getDeclaredConstructors()) {
            got.add("HashHall" + parameters(made));
            due.is(made + " is public", Modifier.isPublic(made.getModifiers()), true);
        }
        for (Method method : HashHall.class.getDeclaredMethods()) {
            String told = method.getReturnType() + " " + method.getName() + parameters(method);
            int kind = method.getModifiers();
            if (!Modifier.isPrivate(kind)) {
                got.add(told);
                due.is(told + " is public", Modifier.isPublic(kind), true);
                due.is(told + " is static", Modifier.isStatic(kind), false);
            }
        }
        for (Field field : HashHall.class.getDeclaredFields()) {
            due.is(field + " is private", Modifier.isPrivate(field.getModifiers()), true);
        }
        int kind = HashHall.class.getModifiers();
        due.is("the class is public", Modifier.isPublic(kind), true);
        due.is("the class is final", Modifier.isFinal(kind), true);
        due.is("the face " + got + " is " + want, got.equals(want), true);
        due.end("FaceTest");
    }

    private static String parameters(Executable made) {
        StringBuilder told = new StringBuilder("(");
        for (Class<?> type : made.getParameterTypes()) {
            told.append(told.length() == 1 ? "" : ", ").append(type);
        }
        return told.append(")").toString();
    }
}
