import java.lang.reflect.Constructor;
import java.lang.reflect.Field;
import java.lang.reflect.Method;
import java.lang.reflect.Modifier;
import java.util.Arrays;
import java.util.TreeSet;

/** 'The public face': the class has its members and shows no others. */
public final class FaceTest {
    private static final String[] METHODS = {
        "public int blame(int) throws java.lang.IndexOutOfBoundsException",
        "public int choices()",
        "public int count(int)",
        "public int cut(int) throws java.lang.IndexOutOfBoundsException",
        "public int cycle(int) throws java.lang.IndexOutOfBoundsException",
        "public int feed(int,int,boolean) throws java.lang.IndexOutOfBoundsException,java.lang.IllegalStateException",
        "public int gate(int) throws java.lang.IllegalArgumentException",
        "public int reset()",
        "public int round(int) throws java.lang.IndexOutOfBoundsException",
        "public int set(int,int) throws java.lang.IndexOutOfBoundsException,java.lang.IllegalArgumentException",
        "public int step()",
        "public int value(int) throws java.lang.IndexOutOfBoundsException"
    };

    private static final Class<?> FACE = TernaryNet.class;

    public static void main(String[] args) {
        Check.test("the public face: a public and final class without a package", FaceTest::theClass);
        Check.test("the public face: NONE is -1, and no other field shows", FaceTest::fields);
        Check.test("the public face: one constructor, without arguments", FaceTest::constructors);
        Check.test("the public face: the twelve methods, and no others", FaceTest::methods);
        Check.test("the public face: the classes inside are static and not public", FaceTest::inside);
        Check.end();
    }

    private static void theClass() {
        Check.due("public and final", FACE.getModifiers(), Modifier.PUBLIC | Modifier.FINAL);
        Check.same("name", FACE.getName(), "TernaryNet");
        Check.same("above it", FACE.getSuperclass().getName(), "java.lang.Object");
        Check.due("interfaces", FACE.getInterfaces().length, 0);
    }

    private static void fields() {
        Check.due("NONE", TernaryNet.NONE, -1);
        TreeSet<String> fields = new TreeSet<>();
        for (Field f : FACE.getDeclaredFields()) {
            if (!Modifier.isPrivate(f.getModifiers()) && !f.isSynthetic()) {
                fields.add(f.toString());
            }
        }
        Check.same("fields", fields.toString(), "[public static final int TernaryNet.NONE]");
    }

    private static void constructors() {
        Constructor<?>[] made = FACE.getDeclaredConstructors();
        Check.due("constructors", made.length, 1);
        Check.same("constructor", made[0].toString(), "public TernaryNet()");
    }

    private static void methods() {
        TreeSet<String> methods = new TreeSet<>();
        for (Method m : FACE.getDeclaredMethods()) {
            if (!Modifier.isPrivate(m.getModifiers()) && !m.isSynthetic()) {
                methods.add(m.toString().replace("TernaryNet.", ""));
            }
        }
        Check.same("methods", methods.toString(), new TreeSet<>(Arrays.asList(METHODS)).toString());
    }

    private static void inside() {
        for (Class<?> inside : FACE.getDeclaredClasses()) {
            int how = inside.getModifiers();
            Check.same(inside.getName() + " static and not public",
                Modifier.isStatic(how) + " " + (Modifier.isPublic(how) || Modifier.isProtected(how)), "true false");
        }
    }
}
