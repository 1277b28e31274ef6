import java.lang.reflect.Field;
import java.lang.reflect.Method;
import java.lang.reflect.Modifier;
import java.util.Arrays;
import java.util.TreeSet;

/** The class has the face of the document and nothing else that can be seen. */
public final class FaceTest {
    private static final String[] FACE = {
        "letter(char)", "work()", "block(int)", "line(int,int,int)", "recut(int,int,int)", "edict(int)",
        "seal(int)", "damp(int)", "run(int,int)", "pass(int)", "bid(int,int,int)", "sell(int,int)",
        "broken(int,int,int)", "marks(int,int,int)", "state(int,int)", "stateAnew(int,int)",
        "breaks(int,int,int)", "strong(int,int,int)", "off(int,int,int)", "owner(int,int)",
        "about(int,int)", "purse()"};

    public static void main(String[] args) {
        Checks checks = new Checks();
        Class<?> face = KeyblockHouse.class;
        checks.due("public and final", face.getModifiers() & (Modifier.PUBLIC | Modifier.FINAL),
            Modifier.PUBLIC | Modifier.FINAL);
        checks.due("constructors", Arrays.toString(face.getDeclaredConstructors()),
            "[public KeyblockHouse()]");
        checks.due("NONE", KeyblockHouse.NONE, -1);
        checks.due("methods", seenMethods(face), new TreeSet<>(Arrays.asList(FACE)));
        checks.due("fields", seenFields(face), new TreeSet<>(Arrays.asList("NONE")));
        checks.finish("FaceTest");
    }

    private static TreeSet<String> seenMethods(Class<?> face) {
        TreeSet<String> seen = new TreeSet<>();
        for (Method method : face.getDeclaredMethods()) {
            if (Modifier.isPrivate(method.getModifiers()) || method.isSynthetic()) {
                continue;
            }
            String kinds = Arrays.toString(method.getParameterTypes()).replaceAll("[\\[\\] ]", "");
            boolean plain = Modifier.isPublic(method.getModifiers()) && method.getReturnType() == int.class
                && !Modifier.isStatic(method.getModifiers());
            seen.add((plain ? "" : "not public int: ") + method.getName() + "(" + kinds + ")");
        }
        return seen;
    }

    private static TreeSet<String> seenFields(Class<?> face) {
        TreeSet<String> seen = new TreeSet<>();
        for (Field field : face.getDeclaredFields()) {
            if (!Modifier.isPrivate(field.getModifiers()) && !field.isSynthetic()) {
                seen.add(field.getName());
            }
        }
        return seen;
    }
}
