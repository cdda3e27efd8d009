import java.lang.reflect.Constructor;
import java.lang.reflect.Field;
import java.lang.reflect.Method;
import java.lang.reflect.Modifier;
import java.util.Arrays;
import java.util.TreeSet;

/** The class has the document's face, and nothing else of it can be seen from outside. */
public final class FaceTest {
    private static final String[] FACE = {
        "public static final int MoverRoom.NONE",
        "public MoverRoom()",
        "public int MoverRoom.room(int,int)",
        "public int MoverRoom.wall(int)",
        "public int MoverRoom.mover(int,int)",
        "public int MoverRoom.clear()",
        "public int MoverRoom.distance(int)",
        "public long MoverRoom.ways(int,int)",
        "public int MoverRoom.solve(int)",
        "public int MoverRoom.cost(int)",
        "public int MoverRoom.at(int,int)",
        "public int MoverRoom.lay(int,int,int)",
        "public int MoverRoom.judge(int)",
    };

    public static void main(String[] args) {
        Check check = new Check();
        TreeSet<String> seen = new TreeSet<>();
        for (Field field : MoverRoom.class.getDeclaredFields()) {
            addSeen(seen, field.getModifiers(), field.toString());
        }
        for (Constructor<?> constructor : MoverRoom.class.getDeclaredConstructors()) {
            addSeen(seen, constructor.getModifiers(), constructor.toString());
        }
        for (Method method : MoverRoom.class.getDeclaredMethods()) {
            addSeen(seen, method.getModifiers(), method.toString());
        }
        TreeSet<String> want = new TreeSet<>(Arrays.asList(FACE));
        check.holds("the face " + seen + " is " + want, seen.equals(want));
        check.holds("the class is final", Modifier.isFinal(MoverRoom.class.getModifiers()));
        check.due("NONE", MoverRoom.NONE, -1);
        for (Class<?> inside : MoverRoom.class.getDeclaredClasses()) {
            check.holds(inside + " is static", Modifier.isStatic(inside.getModifiers()));
        }
        check.end();
    }

    private static void addSeen(TreeSet<String> seen, int modifiers, String text) {
        if (!Modifier.isPrivate(modifiers)) {
            seen.add(text);
        }
    }
}
