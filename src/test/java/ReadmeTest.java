import java.io.IOException;
import java.lang.reflect.Method;
import java.lang.reflect.Modifier;
import java.nio.file.Files;
import java.nio.file.Path;
import java.util.Arrays;
import java.util.Set;
import java.util.TreeSet;
import java.util.regex.Matcher;
import java.util.regex.Pattern;

/** README.md's example: it shows every method of the class, and each answer is the one it tells. */
public final class ReadmeTest {
    private static final Pattern CALL =
        Pattern.compile("hall\\.(\\w+)\\(([^)]*)\\);\\s*// (-?\\d+|true|false|NOTHING|NOBODY)(:.*)?");

    public static void main(String[] args) throws IOException, ReflectiveOperationException {
        Due due = new Due();
        Set<String> shown = new TreeSet<>();
        HashHall hall = new HashHall();
        for (String line : Files.readAllLines(Path.of("README.md"))) {
            Matcher call = CALL.matcher(line);
            due.is("a line of README.md that no one can check: " + line,
                line.startsWith("hall.") && !call.matches(), false);
            if (call.matches()) {
                shown.add(call.group(1));
                due.is(line, answer(hall, call.group(1), call.group(2)), told(call.group(3)));
            }
        }
        due.is("the methods that README.md shows", shown.toString(), publicMethods().toString());
        due.end("ReadmeTest");
    }

    private static long answer(HashHall hall, String name, String arguments)
            throws ReflectiveOperationException {
        Object[] numbers = Arrays.stream(arguments.split(", ")).map(Integer::valueOf).toArray();
        Class<?>[] types = new Class<?>[numbers.length];
        Arrays.fill(types, int.class);
        Object answer = HashHall.class.getMethod(name, types).invoke(hall, numbers);
        return answer instanceof Boolean yes ? Due.bit(yes) : ((Number) answer).longValue();
    }

    private static long told(String answer) {
        switch (answer) {
            case "NOTHING": return Due.NOTHING;
            case "NOBODY": return Due.NOBODY;
            case "true": case "false": return Due.bit(answer.equals("true"));
            default: return Long.parseLong(answer);
        }
    }

    private static Set<String> publicMethods() {
        Set<String> names = new TreeSet<>();
        for (Method method : HashHall.class.getDeclaredMethods()) {
            if (Modifier.isPublic(method.getModifiers())) {
                names.add(method.getName());
            }
        }
        return names;
    }
}
