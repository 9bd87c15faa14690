import java.lang.reflect.Constructor;
import java.lang.reflect.Field;
import java.lang.reflect.Method;
import java.lang.reflect.Modifier;
import java.util.TreeSet;

/** The public face is the document's, and nothing else of the class can be seen. */
public final class FaceTest {
    private static final String[] FACE = {
        "public static final int RUN",
        "public LinePredict(int,int,int)",
        "public boolean thresholds(int,int,int) throws IllegalStateException",
        "public boolean reset(int) throws IllegalStateException",
        "public int sample(int,int) throws IllegalStateException,IllegalArgumentException",
        "public int back(int,int) throws IllegalStateException,IllegalArgumentException",
        "public boolean endRow()",
        "public int context()",
        "public int predicted()",
        "public int neighbour(int) throws IndexOutOfBoundsException",
        "public int state(int,int,int) throws IndexOutOfBoundsException",
        "public int runs()",
        "public int quantised(int) throws IllegalArgumentException",
        "public int setting(int) throws IndexOutOfBoundsException"};

    public static void main(String[] args) {
        Check check = new Check();
        TreeSet<String> seen = new TreeSet<>();
        for (Field field : LinePredict.class.getDeclaredFields()) {
            add(seen, field.getModifiers(), field.toString());
        }
        for (Constructor<?> constructor : LinePredict.class.getDeclaredConstructors()) {
            add(seen, constructor.getModifiers(), constructor.toString());
        }
        for (Method method : LinePredict.class.getDeclaredMethods()) {
            add(seen, method.getModifiers(), method.toString());
        }
        check.same("the face", seen, new TreeSet<>(java.util.List.of(FACE)));
        check.same("the class", Modifier.toString(LinePredict.class.getModifiers()), "public final");
        check.same("RUN", LinePredict.RUN, Integer.MIN_VALUE);
        for (Class<?> inside : LinePredict.class.getDeclaredClasses()) {
            check.same(inside + " is static", Modifier.isStatic(inside.getModifiers()), true);
            check.same(inside + " is public", Modifier.isPublic(inside.getModifiers()), false);
        }
        check.finish();
    }

    private static void add(TreeSet<String> seen, int modifiers, String text) {
        if (!Modifier.isPrivate(modifiers)) {
            seen.add(text.replace("LinePredict.", "").replace("java.lang.", ""));
        }
    }
}
