import java.lang.reflect.Constructor;
import java.lang.reflect.Field;
import java.lang.reflect.Member;
import java.lang.reflect.Method;
import java.lang.reflect.Modifier;
import java.util.Arrays;
import java.util.List;
import java.util.TreeSet;

/** The public face is the document's, and nothing besides is to be seen. */
public final class FaceTest {
    private static final Expect EXPECT = new Expect();

    public static void main(String[] args) {
        EXPECT.yes("the class is public and final", isPublicFinal());
        constants();
        methods();
        constructors();
        EXPECT.end();
    }

    private static boolean isPublicFinal() {
        int m = ScrambledLine.class.getModifiers();
        return Modifier.isPublic(m) && Modifier.isFinal(m);
    }

    private static boolean seen(Member m) {
        return !Modifier.isPrivate(m.getModifiers()) && !m.isSynthetic();
    }

    private static void constants() {
        List<String> due = Arrays.asList("BAD=-1", "FULL=-2", "GOOD=0", "NO_START=1", "FAULTY=2", "ODD=3",
                "SHORT=4", "CHECK=5", "LENGTH=6", "OTHER=7", "EARLY=8", "TORN=9", "ABORTED=10");
        TreeSet<String> got = new TreeSet<>();
        for (Field f : ScrambledLine.class.getDeclaredFields()) {
            if (seen(f)) {
                got.add(f.getName() + "=" + valueOf(f));
            }
        }
        EXPECT.same("constants", got.toString(), new TreeSet<>(due).toString());
    }

    private static String valueOf(Field f) {
        boolean right = f.getModifiers() == (Modifier.PUBLIC | Modifier.STATIC | Modifier.FINAL)
                && f.getType() == int.class;
        try {
            return right ? String.valueOf(f.getInt(null)) : "of another kind";
        } catch (IllegalAccessException e) {
            return "not to be read";
        }
    }

    private static void methods() {
        List<String> due = Arrays.asList("int data[int]", "int send[int]", "boolean hit[int, int]", "int run[int]",
                "int waiting[]", "boolean sending[]", "int level[]", "int register[]", "int state[]",
                "int count[int]", "int source[]", "int length[]", "int byteOf[int]");
        TreeSet<String> got = new TreeSet<>();
        for (Method m : ScrambledLine.class.getDeclaredMethods()) {
            if (seen(m)) {
                EXPECT.same(m.getName() + " is public", m.getModifiers(), Modifier.PUBLIC);
                got.add(m.getReturnType() + " " + m.getName() + Arrays.toString(m.getParameterTypes()));
            }
        }
        EXPECT.same("methods", got.toString(), new TreeSet<>(due).toString());
    }

    private static void constructors() {
        Constructor<?>[] all = ScrambledLine.class.getDeclaredConstructors();
        EXPECT.same("constructors", all.length, 1);
        EXPECT.same("the constructor is public", all[0].getModifiers(), Modifier.PUBLIC);
        EXPECT.same("its parameters", Arrays.toString(all[0].getParameterTypes()), "[int, int, int]");
    }
}
