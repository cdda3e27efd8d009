import java.io.IOException;
import java.lang.reflect.Method;
import java.nio.file.Files;
import java.nio.file.Path;
import java.util.Set;
import java.util.TreeSet;
import java.util.regex.Matcher;
import java.util.regex.Pattern;

/** README.md tells how each call is used: it answers what stands behind it there. */
public final class ReadmeTest {
    private static final Pattern CALL =
            Pattern.compile("room\\.(\\w+)\\(([-0-9, ]*)\\); +// (-?\\d+).*");

    public static void main(String[] args) throws IOException, ReflectiveOperationException {
        Check check = new Check();
        Set<String> shown = new TreeSet<>();
        MoverRoom room = new MoverRoom();
        for (String line : Files.readAllLines(Path.of("README.md"))) {
            Matcher call = CALL.matcher(line);
            if (line.startsWith("room.")) {
                check.holds("a call and its answer: " + line, call.matches());
            }
            if (call.matches()) {
                shown.add(call.group(1));
                check.due(line, answer(room, call.group(1), call.group(2)),
                        Long.parseLong(call.group(3)));
            }
        }
        for (Method method : MoverRoom.class.getMethods()) {
            if (method.getDeclaringClass() == MoverRoom.class) {
                check.holds(method + " is shown", shown.contains(method.getName()));
            }
        }
        check.end();
    }

    private static long answer(MoverRoom room, String name, String texts)
            throws ReflectiveOperationException {
        String[] parts = texts.isEmpty() ? new String[0] : texts.split(", ");
        Object[] values = new Object[parts.length];
        Class<?>[] types = new Class<?>[parts.length];
        for (int i = 0; i < parts.length; i++) {
            values[i] = Integer.valueOf(parts[i]);
            types[i] = int.class;
        }
        Object answer = MoverRoom.class.getMethod(name, types).invoke(room, values);
        return ((Number) answer).longValue();
    }
}
