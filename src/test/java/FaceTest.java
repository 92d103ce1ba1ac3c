import java.lang.reflect.Constructor;
import java.lang.reflect.Field;
import java.lang.reflect.Method;
import java.lang.reflect.Modifier;
import java.util.Arrays;
import java.util.TreeSet;

/** The class shows the document's face, and nothing else. */
public final class FaceTest {
    private static final String[] FACE = {
        "int advise(int,int) IndexOutOfBoundsException,IllegalArgumentException",
        "int bind(int) IndexOutOfBoundsException,IllegalStateException",
        "int bring(int,int) IndexOutOfBoundsException,IllegalArgumentException,IllegalStateException",
        "int build(int,int,int) IllegalArgumentException,IllegalStateException",
        "int count(int) IndexOutOfBoundsException",
        "long digest() ",
        "int foresee(int,int,int) IndexOutOfBoundsException,IllegalArgumentException",
        "int holds(int) IndexOutOfBoundsException",
        "int lay(int,int,int,int,int,int) IndexOutOfBoundsException,IllegalArgumentException,IllegalStateException",
        "int layCourse(int,int,int,int,int) IndexOutOfBoundsException,IllegalArgumentException",
        "double mean() ",
        "int mend(int,int,int) IndexOutOfBoundsException,IllegalStateException",
        "int needs(int,int) IndexOutOfBoundsException,IllegalArgumentException",
        "int pass(int) IllegalArgumentException",
        "int roof(int,int) IndexOutOfBoundsException",
        "int setWeather(int,int,int) IndexOutOfBoundsException,IllegalArgumentException",
        "int tears(int,int) IndexOutOfBoundsException,IllegalArgumentException",
        "int yealm(int,int,int,int) IndexOutOfBoundsException",
    };

    public static void main(String[] args) {
        Due due = new Due();
        int kind = ThatchRoof.class.getModifiers();
        due.same("public and final", Modifier.isPublic(kind) && Modifier.isFinal(kind), true);

        TreeSet<String> shown = new TreeSet<>();
        TreeSet<String> names = new TreeSet<>();
        for (Method m : ThatchRoof.class.getDeclaredMethods()) {
            if (!Modifier.isPrivate(m.getModifiers())) {
                shown.add(line(m));
                names.add(m.getName());
            }
        }
        due.same("the face", shown, new TreeSet<>(Arrays.asList(FACE)));

        Constructor<?>[] made = ThatchRoof.class.getDeclaredConstructors();
        due.same("constructors", made.length, 1);
        due.same("the constructor", made[0].toString(), "public ThatchRoof()");
        for (Field f : ThatchRoof.class.getDeclaredFields()) {
            int m = f.getModifiers();
            due.same(f + " is private", Modifier.isPrivate(m), true);
            due.same(f + " is no state of the class", !Modifier.isStatic(m) || Modifier.isFinal(m), true);
        }
        hiddenNames(due, ThatchRoof.class, names);
        for (Class<?> inside : ThatchRoof.class.getDeclaredClasses()) {
            int m = inside.getModifiers();
            due.same(inside + " is static and hidden",
                    Modifier.isStatic(m) && !Modifier.isPublic(m) && !Modifier.isProtected(m), true);
            hiddenNames(due, inside, names);
        }
        due.end("FaceTest");
    }

    private static void hiddenNames(Due due, Class<?> of, TreeSet<String> names) {
        for (Method m : of.getDeclaredMethods()) {
            due.same(m + " is hidden and bears a public name",
                    Modifier.isPrivate(m.getModifiers()) && names.contains(m.getName()), false);
        }
    }

    private static String line(Method m) {
        return m.getReturnType().getSimpleName() + " " + m.getName() + "(" + simple(m.getParameterTypes()) + ") "
                + simple(m.getExceptionTypes());
    }

    private static String simple(Class<?>[] types) {
        StringBuilder b = new StringBuilder();
        for (Class<?> t : types) {
            b.append(b.length() == 0 ? "" : ",").append(t.getSimpleName());
        }
        return b.toString();
    }
}
