import java.lang.reflect.Constructor;
import java.lang.reflect.Field;
import java.lang.reflect.Method;
import java.lang.reflect.Modifier;
import java.util.TreeSet;

/** The public face is the document's, and nothing else. */
public final class FaceTest {
    static final String[] FACE = {
        "int feed(int,int,int,int,int)", "int siege(int) IAE", "int contract(int) IAE", "int fault()",
        "int told(int) IAE", "int wall(int,int) IOOBE IAE", "int rule(int,int) NSEE IAE", "int wants(int,int) IAE",
        "int sign(int) NSEE", "int months(int) IAE", "int undo(int) IAE", "int sums(int) IAE",
        "int corks(int,int) IOOBE IAE", "int would(int,int,int) NSEE IAE", "int best(int,int) IAE",
        "int offer(int,int) IAE", "int nearest(int,int) IAE", "int stop(int,int) IAE", "void odds(int,int) IAE",
        "void kind(int,int,int) IAE", "int seen(int) IAE", "int spy(boolean,int) IAE", "long believed(int) IAE",
        "int earnest(int,int,int) IAE", "int stands(int,int) IAE", "int show(int,int) IAE",
        "int offers(int,int,int) IAE", "int most()", "int serves(int) IAE", "int image()", "int restore()",
        "int status(int)", "int count(int)"
    };

    public static void main(String[] args) {
        TreeSet<String> got = new TreeSet<>();
        TreeSet<String> names = new TreeSet<>();
        for (Method m : HiredEnemy.class.getDeclaredMethods()) {
            if (!Modifier.isPrivate(m.getModifiers())) {
                got.add(tell(m));
                names.add(m.getName());
            }
        }
        Check.same("the public methods", got.toString(), new TreeSet<>(java.util.List.of(FACE)).toString());
        privateNames(HiredEnemy.class, names);
        for (Class<?> inside : HiredEnemy.class.getDeclaredClasses()) {
            privateNames(inside, names);
            Check.same("a class inside is static: " + inside, Modifier.isStatic(inside.getModifiers()) + "", "true");
        }
        for (Field f : HiredEnemy.class.getDeclaredFields()) {
            boolean constant = f.getName().equals("NONE");
            Check.same("private: " + f, Modifier.isPrivate(f.getModifiers()) + "", !constant + "");
        }
        Constructor<?>[] made = HiredEnemy.class.getDeclaredConstructors();
        Check.same("constructors", made.length, 1);
        Check.same("its parameters", made[0].getParameterCount(), 0);
        Check.same("final and public", HiredEnemy.class.getModifiers(), Modifier.PUBLIC | Modifier.FINAL);
        Check.same("NONE", HiredEnemy.NONE, -1);
        Check.end("FaceTest");
    }

    private static void privateNames(Class<?> of, TreeSet<String> names) {
        for (Method m : of.getDeclaredMethods()) {
            boolean isFace = of == HiredEnemy.class && Modifier.isPublic(m.getModifiers());
            Check.same("name of the face used again: " + m, !isFace && names.contains(m.getName()) ? 1 : 0, 0);
        }
    }

    private static String tell(Method m) {
        StringBuilder s = new StringBuilder();
        s.append(m.getReturnType().getSimpleName()).append(' ').append(m.getName()).append('(');
        for (int i = 0; i < m.getParameterCount(); i++) {
            s.append(i > 0 ? "," : "").append(m.getParameterTypes()[i].getSimpleName());
        }
        s.append(')');
        for (Class<?> e : m.getExceptionTypes()) {
            s.append(' ').append(e.getSimpleName().replaceAll("[a-z]", ""));
        }
        return s.toString();
    }
}
