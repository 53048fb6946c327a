import java.lang.reflect.Constructor;
import java.lang.reflect.Field;
import java.lang.reflect.Method;
import java.lang.reflect.Modifier;
import java.util.Arrays;
import java.util.Set;
import java.util.TreeSet;

/** The public face is the document's, with its exceptions in their order, and nothing more. */
public final class FaceTest {
    private static final String N = "NoSuchElementException";
    private static final String A = "IllegalArgumentException";
    private static final String S = "IllegalStateException";
    private static final String I = "IndexOutOfBoundsException";

    public static void main(String[] args) {
        Set<String> want = new TreeSet<>(Arrays.asList(
                "void pool(int,int,int,int) " + N + " " + A,
                "void join(int,int) " + N + " " + S,
                "void off(int) " + N + " " + S,
                "void leave(int) " + N + " " + S,
                "void strange(int,boolean) " + A,
                "void down(boolean)",
                "int tick()",
                "int packets()",
                "int packet(int,int) " + N + " " + I,
                "int carry(int) " + N,
                "void twice(int) " + N,
                "void drop(int) " + N,
                "int run(int) " + A,
                "boolean type(long,int)",
                "int told(int) " + I + " " + A,
                "void inject(int) " + A,
                "int client(int,int) " + N + " " + I,
                "int record(int,int) " + I,
                "int count(int) " + I));
        Set<String> got = new TreeSet<>();
        Set<String> names = new TreeSet<>();
        for (Method m : LeaseNet.class.getDeclaredMethods()) {
            if (!Modifier.isPrivate(m.getModifiers())) {
                got.add(written(m));
                names.add(m.getName());
                Check.same(m + " is public", Modifier.isPublic(m.getModifiers()), true);
                Check.same(m + " is static", Modifier.isStatic(m.getModifiers()), false);
            }
        }
        if (!got.equals(want)) {
            System.out.println("got " + got + "\ndue " + want);
        }
        Check.same("the face is as due", got.equals(want), true);
        for (Method m : LeaseNet.class.getDeclaredMethods()) {
            if (Modifier.isPrivate(m.getModifiers())) {
                Check.same(m + " bears a public name", names.contains(m.getName()), false);
            }
        }
        for (Field f : LeaseNet.class.getDeclaredFields()) {
            Check.same(f + " is private", Modifier.isPrivate(f.getModifiers()), true);
        }
        Constructor<?>[] made = LeaseNet.class.getDeclaredConstructors();
        Check.same("constructors", made.length, 1);
        Check.same("it is public", Modifier.isPublic(made[0].getModifiers()), true);
        Check.same("its parameters", made[0].getParameterCount(), 0);
        Check.same("the class is final", Modifier.isFinal(LeaseNet.class.getModifiers()), true);
        for (Class<?> c : LeaseNet.class.getDeclaredClasses()) {
            Check.same(c + " is static", Modifier.isStatic(c.getModifiers()), true);
            Check.same(c + " is public", Modifier.isPublic(c.getModifiers()), false);
        }
        Check.end();
    }

    private static String written(Method m) {
        StringBuilder text = new StringBuilder(m.getReturnType().getSimpleName());
        text.append(' ').append(m.getName()).append('(');
        for (int i = 0; i < m.getParameterTypes().length; i++) {
            text.append(i == 0 ? "" : ",").append(m.getParameterTypes()[i].getSimpleName());
        }
        text.append(')');
        for (Class<?> e : m.getExceptionTypes()) {
            text.append(' ').append(e.getSimpleName());
        }
        return text.toString();
    }
}
