import java.lang.reflect.Constructor;
import java.lang.reflect.Field;
import java.lang.reflect.Method;
import java.lang.reflect.Modifier;
import java.util.TreeSet;

/** The class shows the document's face, and nothing besides. */
public final class FaceTest {
    private static final String INDEX = " throws java.lang.IndexOutOfBoundsException";
    private static final String ARGUMENT = ",java.lang.IllegalArgumentException";
    private static final String STATE = ",java.lang.IllegalStateException";
    private static final String[] FACE = {
        "public ShadowWalls()",
        "public int ShadowWalls.set(int,int,int)" + INDEX + ARGUMENT,
        "public int ShadowWalls.lamp(int,int,int)" + INDEX + ARGUMENT + STATE,
        "public int ShadowWalls.carry(int,int,int)" + INDEX + STATE,
        "public int ShadowWalls.turn(int,int)" + INDEX + ARGUMENT,
        "public int ShadowWalls.watcher(int,int)" + INDEX + STATE,
        "public int ShadowWalls.creep(int,int,int)" + INDEX + STATE,
        "public int ShadowWalls.told(int,int,int)" + INDEX,
        "public int ShadowWalls.about(int,int)" + INDEX,
        "public int ShadowWalls.seat(int,int)" + INDEX,
        "public boolean ShadowWalls.sees(int,int)" + INDEX,
        "public int ShadowWalls.count(int)" + INDEX,
        "public int ShadowWalls.far(int,int)" + INDEX,
        "public int ShadowWalls.stops(int,int)" + INDEX,
        "public int ShadowWalls.creeps(int,int,int)" + INDEX,
        "public int ShadowWalls.would(int,int,int)" + INDEX + ARGUMENT,
        "public int ShadowWalls.advise(int)" + INDEX,
        "public int ShadowWalls.darkest()",
        "public double ShadowWalls.mean()",
        "public long ShadowWalls.digest()",
    };

    public static void main(String[] args) {
        Due due = new Due("FaceTest");
        TreeSet<String> want = new TreeSet<>();
        for (String member : FACE) {
            want.add(member);
            due.is(member, true, () -> shown().contains(member));
        }
        due.is("all that is shown", want, FaceTest::shown);
        due.is("the class", "public final", () -> Modifier.toString(ShadowWalls.class.getModifiers()));
        due.end();
    }

    private static TreeSet<String> shown() {
        TreeSet<String> members = new TreeSet<>();
        for (Constructor<?> constructor : ShadowWalls.class.getDeclaredConstructors()) {
            if (!Modifier.isPrivate(constructor.getModifiers())) {
                members.add(constructor.toString());
            }
        }
        for (Method method : ShadowWalls.class.getDeclaredMethods()) {
            if (!Modifier.isPrivate(method.getModifiers())) {
                members.add(method.toString());
            }
        }
        for (Field field : ShadowWalls.class.getDeclaredFields()) {
            if (!Modifier.isPrivate(field.getModifiers())) {
                members.add(field.toString());
            }
        }
        return members;
    }
}
