import java.lang.reflect.Constructor;
import java.lang.reflect.Field;
import java.lang.reflect.Method;
import java.lang.reflect.Modifier;
import java.util.Arrays;
import java.util.TreeSet;

/** The class shows the document's face and nothing else. */
public final class FaceTest {
    private static final String[] FACE = {
        "int put(int) UnsupportedOperationException",
        "int more(long,int,int) IllegalArgumentException,UnsupportedOperationException",
        "int line(int,int,int,int) IllegalArgumentException,UnsupportedOperationException",
        "void exchange(int,int) IndexOutOfBoundsException",
        "void turn(int,int) IndexOutOfBoundsException",
        "int order(int) IllegalArgumentException",
        "int sort(int) IllegalArgumentException",
        "int kill(int,int) IllegalArgumentException",
        "int get(int) IndexOutOfBoundsException",
        "int tag(int) IndexOutOfBoundsException",
        "boolean is(int) IllegalArgumentException",
        "long count(int) IllegalArgumentException",
        "int clear() ",
    };

    public static void main(String[] args) {
        Class<?> c = SortBench.class;
        Check.due("the class is public and final", true,
            Modifier.isPublic(c.getModifiers()) && Modifier.isFinal(c.getModifiers()));
        TreeSet<String> shown = new TreeSet<>();
        TreeSet<String> names = new TreeSet<>();
        for (Method m : c.getDeclaredMethods()) {
            if (!Modifier.isPrivate(m.getModifiers()) && !m.isSynthetic()) {
                shown.add(tell(m));
                names.add(m.getName());
            }
        }
        Check.due("the face", new TreeSet<>(Arrays.asList(FACE)).toString(), shown.toString());
        noNamesakes(c, names);
        for (Field f : c.getDeclaredFields()) {
            Check.due("the field " + f.getName() + " is private", true, Modifier.isPrivate(f.getModifiers()));
            Check.due("the field " + f.getName() + " is final, if static", true,
                !Modifier.isStatic(f.getModifiers()) || Modifier.isFinal(f.getModifiers()));
        }
        Constructor<?>[] made = c.getDeclaredConstructors();
        Check.due("constructors", 1, made.length);
        Check.due("the constructor is public", true, Modifier.isPublic(made[0].getModifiers()));
        Check.due("the constructor's parameters", 0, made[0].getParameterCount());
        for (Class<?> inside : c.getDeclaredClasses()) {
            int m = inside.getModifiers();
            Check.due(inside.getSimpleName() + " is static and not public", true,
                Modifier.isStatic(m) && !Modifier.isPublic(m) && !Modifier.isProtected(m));
        }
        Check.end("FaceTest");
    }

    /** LANGUAGE.md, rule 1: no private method bears the name of a public one; rule 11: at most seven parameters. */
    private static void noNamesakes(Class<?> c, TreeSet<String> names) {
        for (Method m : c.getDeclaredMethods()) {
            Check.due(m.getName() + " is private and bears a public one's name", false,
                Modifier.isPrivate(m.getModifiers()) && names.contains(m.getName()));
            Check.due(m.getName() + " has at most seven parameters", true, m.getParameterCount() <= 7);
        }
        for (Class<?> inside : c.getDeclaredClasses()) {
            noNamesakes(inside, names);
        }
    }

    private static String tell(Method m) {
        return m.getReturnType().getSimpleName() + " " + m.getName()
            + "(" + names(m.getParameterTypes()) + ") " + names(m.getExceptionTypes());
    }

    private static String names(Class<?>[] types) {
        StringBuilder told = new StringBuilder();
        for (Class<?> type : types) {
            told.append(told.length() == 0 ? "" : ",").append(type.getSimpleName());
        }
        return told.toString();
    }
}
