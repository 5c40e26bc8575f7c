import java.lang.reflect.Constructor;
import java.lang.reflect.Field;
import java.lang.reflect.Method;
import java.lang.reflect.Modifier;
import java.util.TreeSet;

/** The public face: the document's constructor and methods, and nothing else that can be seen. */
public final class FaceTest {
    public static void main(String[] args) {
        Desk test = new Desk();
        test.sentence("The public face");
        Class<?> face = FormatDesk.class;
        test.same("modifiers", face.getModifiers() & (Modifier.PUBLIC | Modifier.FINAL), Modifier.PUBLIC | Modifier.FINAL);
        TreeSet<String> seen = new TreeSet<>();
        for (Method method : face.getDeclaredMethods()) {
            if (!Modifier.isPrivate(method.getModifiers())) {
                seen.add(method.toString());
            }
        }
        TreeSet<String> due = new TreeSet<>();
        due.add("public int FormatDesk.text(long) throws java.lang.IndexOutOfBoundsException");
        due.add("public int FormatDesk.argument(long) throws java.lang.IndexOutOfBoundsException");
        due.add("public void FormatDesk.clear()");
        due.add("public int FormatDesk.run() throws java.lang.IllegalArgumentException,java.lang.UnsupportedOperationException");
        due.add("public int FormatDesk.wrong()");
        due.add("public long FormatDesk.letters(int) throws java.lang.IndexOutOfBoundsException");
        due.add("public int FormatDesk.count(int) throws java.lang.IllegalArgumentException");
        test.same("methods", seen, due);
        for (Field field : face.getDeclaredFields()) {
            test.same(field + " is private", Modifier.isPrivate(field.getModifiers()), true);
        }
        Constructor<?>[] constructors = face.getDeclaredConstructors();
        test.same("constructors", constructors.length, 1);
        test.same("constructor", constructors[0].toString(), "public FormatDesk()");
        test.end();
    }
}
