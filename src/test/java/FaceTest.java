import java.lang.reflect.Constructor;
import java.lang.reflect.Field;
import java.lang.reflect.Member;
import java.lang.reflect.Method;
import java.lang.reflect.Modifier;
import java.util.Arrays;
import java.util.HashSet;
import java.util.Set;
import java.util.TreeSet;
import java.util.stream.Collectors;

/** The public face, and rule 1 of the language. */
final class FaceTest {
    private static final String INDEX = "IndexOutOfBoundsException";
    private static final String ARGUMENT = "IllegalArgumentException";
    private static final String STATE = "IllegalStateException";
    private static final String NONE = "NoSuchElementException";

    public static void main(String[] args) {
        constants();
        members();
        names();
        Check.end();
    }

    private static void constants() {
        Check.due("STOPPED", BufferedCores.STOPPED, 0);
        Check.due("DONE", BufferedCores.DONE, 1);
        Check.due("ENDED", BufferedCores.ENDED, 2);
        Check.due("NOTHING", BufferedCores.NOTHING, 3);
        Check.due("BUSY", BufferedCores.BUSY, 4);
    }

    private static void members() {
        Set<String> due = new TreeSet<>(Arrays.asList(
            "int STOPPED", "int DONE", "int ENDED", "int NOTHING", "int BUSY", "new(int)",
            "int code(int, int, int, int) " + INDEX + " " + ARGUMENT + " " + STATE,
            "void poke(int, int) " + ARGUMENT + " " + STATE,
            "int step(int) " + INDEX, "int drain(int) " + INDEX,
            "int grant(int) " + INDEX, "int fill(int) " + INDEX,
            "int register(int, int) " + INDEX + " " + ARGUMENT,
            "int place(int) " + INDEX, "int buffered(int) " + INDEX,
            "int storeAddress(int, int) " + INDEX + " " + NONE,
            "int storeValue(int, int) " + INDEX + " " + NONE,
            "int line(int, int) " + INDEX + " " + ARGUMENT,
            "int cached(int, int) " + INDEX + " " + ARGUMENT + " " + NONE,
            "int request(int) " + INDEX,
            "int memory(int) " + ARGUMENT, "int word(int) " + ARGUMENT,
            "int events()", "int event(int) " + NONE, "int eventValue(int) " + NONE));
        Set<String> got = new TreeSet<>();
        for (Field f : BufferedCores.class.getDeclaredFields()) {
            if (isSeen(f)) {
                got.add(f.getType() + " " + f.getName());
            }
        }
        for (Constructor<?> c : BufferedCores.class.getDeclaredConstructors()) {
            if (isSeen(c)) {
                got.add("new(" + names(c.getParameterTypes(), ", ") + ")");
            }
        }
        for (Method m : BufferedCores.class.getDeclaredMethods()) {
            if (isSeen(m)) {
                String call = m.getReturnType() + " " + m.getName() + "(" + names(m.getParameterTypes(), ", ") + ")";
                got.add((call + " " + names(m.getExceptionTypes(), " ")).trim());
            }
        }
        Check.due("the face", got, due);
        int wanted = Modifier.PUBLIC | Modifier.FINAL;
        Check.due("the class's modifiers", BufferedCores.class.getModifiers(), wanted);
    }

    private static void names() {
        Set<String> open = new HashSet<>();
        for (Method m : BufferedCores.class.getDeclaredMethods()) {
            if (Modifier.isPublic(m.getModifiers())) {
                open.add(m.getName());
            }
        }
        for (Method m : BufferedCores.class.getDeclaredMethods()) {
            if (!Modifier.isPublic(m.getModifiers())) {
                Check.due("a private method named " + m.getName() + " has a public one's name",
                    open.contains(m.getName()), false);
            }
        }
        for (Class<?> inside : BufferedCores.class.getDeclaredClasses()) {
            int modifiers = inside.getModifiers();
            Check.due(inside.getName() + " is open", Modifier.isPublic(modifiers) || Modifier.isProtected(modifiers), false);
            Check.due(inside.getName() + " is static", Modifier.isStatic(modifiers), true);
        }
    }

    private static boolean isSeen(Member m) {
        return !m.isSynthetic() && !Modifier.isPrivate(m.getModifiers());
    }

    private static String names(Class<?>[] types, String between) {
        return Arrays.stream(types).map(Class::getSimpleName).collect(Collectors.joining(between));
    }
}
