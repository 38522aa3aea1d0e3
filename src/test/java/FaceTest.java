import java.lang.reflect.Constructor;
import java.lang.reflect.Field;
import java.lang.reflect.Method;
import java.lang.reflect.Modifier;
import java.util.Arrays;
import java.util.Set;
import java.util.TreeSet;

/** The public face: just the document's members, with just the exceptions that it names. */
public final class FaceTest {
    private static final Set<String> FACE = new TreeSet<>(Arrays.asList(
            "public int feed(int,int,int,int,int) throws IllegalStateException",
            "public int end(int) throws IllegalArgumentException",
            "public int key() throws IllegalArgumentException,IllegalStateException",
            "public void open(int,int) throws NoSuchElementException,IllegalArgumentException",
            "public boolean agree(int) throws NoSuchElementException,IllegalArgumentException",
            "public int message()",
            "public void sign(int) throws NoSuchElementException",
            "public int verify() throws IllegalArgumentException",
            "public boolean point() throws IllegalArgumentException",
            "public int back(int,int) throws IndexOutOfBoundsException,IllegalStateException",
            "public int result(int) throws IndexOutOfBoundsException",
            "public int count(int)"));

    public static void main(String[] args) {
        Check check = new Check();
        check.due("public and final", CurveKeys.class.getModifiers(), Modifier.PUBLIC | Modifier.FINAL);
        check.due("methods", visibleMethods(), FACE);
        for (Field field : CurveKeys.class.getDeclaredFields()) {
            check.due(field.getName() + " is private", Modifier.isPrivate(field.getModifiers()), true);
        }
        Constructor<?>[] constructors = CurveKeys.class.getDeclaredConstructors();
        check.due("constructors", Arrays.toString(constructors), "[public CurveKeys()]");
        for (Class<?> inside : CurveKeys.class.getDeclaredClasses()) {
            int wanted = Modifier.PRIVATE | Modifier.STATIC | Modifier.FINAL;
            check.due(inside.getName() + " is private, static and final", inside.getModifiers(), wanted);
        }
        check.due("at most twelve classes", CurveKeys.class.getDeclaredClasses().length < 12, true);
        check.finish();
    }

    private static Set<String> visibleMethods() {
        Set<String> visible = new TreeSet<>();
        for (Method method : CurveKeys.class.getDeclaredMethods()) {
            if (!Modifier.isPrivate(method.getModifiers())) {
                visible.add(method.toString().replaceAll("java\\.lang\\.|java\\.util\\.|CurveKeys\\.", ""));
            }
        }
        return visible;
    }
}
