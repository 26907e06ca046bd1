import java.lang.reflect.Constructor;
import java.lang.reflect.Field;
import java.lang.reflect.Method;
import java.lang.reflect.Modifier;
import java.util.Set;
import java.util.TreeSet;

/** The public face: the document's constants, constructor and methods, and no other member that others can see. */
public final class FaceTest {
    private static final Set<String> FACE = Set.of(
        "public static final int DONE = 0",
        "public static final int REFUSED = -1",
        "public static final int NO_WORLD = -2",
        "public static final int FAILED = -101",
        "public static final int GONE = -102",
        "public static final int ASSERTED = -103",
        "public static final int CASE = -104",
        "public SuiteLoader()",
        "public int SuiteLoader.begin(boolean)",
        "public int SuiteLoader.enter(int)",
        "public int SuiteLoader.asserting(boolean)",
        "public int SuiteLoader.act(int,int)",
        "public int SuiteLoader.find(int,boolean)",
        "public int SuiteLoader.keep(int,int)",
        "public boolean SuiteLoader.isOf(int,int)",
        "public boolean SuiteLoader.alike(int,int)",
        "public int SuiteLoader.note(int)",
        "public int SuiteLoader.count(int)");

    public static void main(String[] args) throws IllegalAccessException {
        Due due = new Due();
        Set<String> seen = visible();
        for (String member : FACE) {
            due.is("there is '" + member + "'", seen.contains(member), true);
        }
        for (String member : seen) {
            due.is("the document has '" + member + "'", FACE.contains(member), true);
        }
        due.is("the class's modifiers", SuiteLoader.class.getModifiers(), Modifier.PUBLIC | Modifier.FINAL);
        due.end();
    }

    private static Set<String> visible() throws IllegalAccessException {
        Set<String> members = new TreeSet<>();
        for (Field field : SuiteLoader.class.getDeclaredFields()) {
            if (!Modifier.isPrivate(field.getModifiers())) {
                String value = Modifier.isStatic(field.getModifiers()) ? " = " + field.get(null) : "";
                members.add(Modifier.toString(field.getModifiers()) + " " + field.getType() + " " + field.getName() + value);
            }
        }
        for (Constructor<?> constructor : SuiteLoader.class.getDeclaredConstructors()) {
            if (!Modifier.isPrivate(constructor.getModifiers())) {
                members.add(constructor.toString());
            }
        }
        for (Method method : SuiteLoader.class.getDeclaredMethods()) {
            if (!Modifier.isPrivate(method.getModifiers())) {
                members.add(method.toString());
            }
        }
        return members;
    }
}
