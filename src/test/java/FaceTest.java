import java.lang.reflect.Constructor;
import java.lang.reflect.Field;
import java.lang.reflect.Method;
import java.lang.reflect.Modifier;
import java.util.Arrays;
import java.util.Set;
import java.util.TreeSet;

/** The document's public face, whole, and nothing beside it that another class could see. */
public final class FaceTest {
    private static final Set<String> FACE = new TreeSet<>(Arrays.asList(
        "public static final int CountRoom.BAD",
        "public static final int CountRoom.NONE",
        "public CountRoom()",
        "public int CountRoom.open(int,int)",
        "public int CountRoom.close(int)",
        "public int CountRoom.write(int,int,int)",
        "public int CountRoom.share(int,int,int)",
        "public int CountRoom.spread(int,int)",
        "public int CountRoom.climb(int,int)",
        "public int CountRoom.find(int)",
        "public int CountRoom.rounds(int,boolean)",
        "public int CountRoom.bring(int,boolean)",
        "public long CountRoom.number(int,int)",
        "public long CountRoom.told(int)"));

    public static void main(String[] args) {
        Checks checks = new Checks();
        Set<String> seen = new TreeSet<>();
        Set<String> publicNames = new TreeSet<>();
        for (Field field : CountRoom.class.getDeclaredFields()) {
            addVisible(seen, field.getModifiers(), field.toString());
            boolean changes = Modifier.isStatic(field.getModifiers()) && !Modifier.isFinal(field.getModifiers());
            checks.holds("no static field changes: " + field, !changes);
        }
        for (Constructor<?> constructor : CountRoom.class.getDeclaredConstructors()) {
            addVisible(seen, constructor.getModifiers(), constructor.toString());
        }
        for (Method method : CountRoom.class.getDeclaredMethods()) {
            addVisible(seen, method.getModifiers(), method.toString());
            if (Modifier.isPublic(method.getModifiers())) {
                publicNames.add(method.getName());
            }
        }
        for (Method method : CountRoom.class.getDeclaredMethods()) {
            boolean twice = Modifier.isPrivate(method.getModifiers()) && publicNames.contains(method.getName());
            checks.holds("no private method bears a public name: " + method, !twice);
        }
        checks.holds("the face is " + FACE + ", seen is " + seen, seen.equals(FACE));
        checks.due("the class's modifiers", CountRoom.class.getModifiers(), Modifier.PUBLIC | Modifier.FINAL);
        checks.end();
    }

    private static void addVisible(Set<String> seen, int modifiers, String member) {
        if (!Modifier.isPrivate(modifiers)) {
            seen.add(member);
        }
    }
}
