import java.io.IOException;
import java.lang.reflect.Method;
import java.lang.reflect.Modifier;
import java.nio.file.Files;
import java.nio.file.Path;
import java.util.Set;
import java.util.TreeSet;
import java.util.regex.Matcher;
import java.util.regex.Pattern;

/** README.md's calls, made in their order on one room, so that what it tells a reader is what the class answers. */
public final class ReadmeTest {
    private static final Pattern CALL = Pattern.compile("room\\.(\\w+)\\((.*?)\\);\\s*// (-?\\d+)(:.*)?");

    public static void main(String[] args) throws IOException, ReflectiveOperationException {
        Checks checks = new Checks();
        CountRoom room = new CountRoom();
        Set<String> shown = new TreeSet<>();
        for (String line : Files.readAllLines(Path.of("README.md"))) {
            if (line.startsWith("room.")) {
                Matcher call = CALL.matcher(line);
                boolean told = call.matches();
                checks.holds("README.md tells the answer of: " + line, told);
                if (told) {
                    shown.add(call.group(1));
                    checks.due(line, answer(room, call.group(1), call.group(2)), Long.parseLong(call.group(3)));
                }
            }
        }
        for (Method method : CountRoom.class.getDeclaredMethods()) {
            if (Modifier.isPublic(method.getModifiers())) {
                checks.holds("README.md shows " + method.getName(), shown.contains(method.getName()));
            }
        }
        checks.end();
    }

    private static long answer(CountRoom room, String name, String list) throws ReflectiveOperationException {
        String[] words = list.split(", ");
        Class<?>[] types = new Class<?>[words.length];
        Object[] values = new Object[words.length];
        for (int i = 0; i < words.length; i++) {
            boolean truth = words[i].equals("true") || words[i].equals("false");
            types[i] = truth ? boolean.class : int.class;
            values[i] = truth ? (Object) Boolean.valueOf(words[i]) : (Object) Integer.valueOf(words[i]);
        }
        return ((Number) CountRoom.class.getMethod(name, types).invoke(room, values)).longValue();
    }
}
