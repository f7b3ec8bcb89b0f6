import java.lang.reflect.Constructor;
import java.lang.reflect.Field;
import java.lang.reflect.Method;
import java.lang.reflect.Modifier;
import java.util.Arrays;
import java.util.TreeSet;

/** 'The public face': the class has its members and shows no others. */
public final class FaceTest {
    private static final String[] METHODS = {
        "public int blame(int) throws java.lang.IndexOutOfBoundsException",
        "public int choices()",
        "public int count(int)",
        "public int cut(int) throws java.lang.IndexOutOfBoundsException",
        "public int cycle(int) throws java.lang.IndexOutOfBoundsException",
        "public int feed(int,int,boolean) throws java.lang.IndexOutOfBoundsException,java.lang.IllegalStateException",
        "public int gate(int) throws java.lang.IllegalArgumentException",
        "public int reset()",
        "public int round(int) throws java.lang.IndexOutOfBoundsException",
        "public int set(int,int) throws java.lang.IndexOutOfBoundsException,java.lang.IllegalArgumentException",
        "public int step()",
        "public int value(int) throws java.lang.IndexOutOfBoundsException"
    };

    public static void main(String[] args) {
        Class<?> c = TernaryNet.class;
        Check.due("public and final", c.getModifiers(), Modifier.PUBLIC | Modifier.FINAL);
        Check.due("NONE", TernaryNet.NONE, -1);

        TreeSet<String> methods = new TreeSet<>();
        for (Method m : c.getDeclaredMethods()) {
            if (!Modifier.isPrivate(m.getModifiers()) && !m.isSynthetic()) {
                methods.add(m.toString().replace("TernaryNet.", ""));
            }
        }
        Check.same("methods", methods.toString(), new TreeSet<>(Arrays.asList(METHODS)).toString());

        TreeSet<String> fields = new TreeSet<>();
        for (Field f : c.getDeclaredFields()) {
            if (!Modifier.isPrivate(f.getModifiers()) && !f.isSynthetic()) {
                fields.add(f.toString());
            }
        }
        Check.same("fields", fields.toString(), "[public static final int TernaryNet.NONE]");

        Constructor<?>[] made = c.getDeclaredConstructors();
        Check.due("constructors", made.length, 1);
        Check.same("constructor", made[0].toString(), "public TernaryNet()");
        for (Class<?> inside : c.getDeclaredClasses()) {
            int how = inside.getModifiers();
            Check.same(inside.getName() + " static and not public",
                Modifier.isStatic(how) + " " + (Modifier.isPublic(how) || Modifier.isProtected(how)), "true false");
        }
        Check.end();
    }
}
