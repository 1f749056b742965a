import java.lang.reflect.Constructor;
import java.lang.reflect.Field;
import java.lang.reflect.Member;
import java.lang.reflect.Method;
import java.lang.reflect.Modifier;
import java.util.Arrays;
import java.util.HashSet;
import java.util.Set;
import java.util.TreeSet;
import java.util.stream.Collectors;

/** The public face, and rule 1 of the language. */
final class FaceTest {
    private static final String INDEX = "IndexOutOfBoundsException";
    private static final String ARGUMENT = "IllegalArgumentException";
    private static final String STATE = "IllegalStateException";
    private static final String NONE = "NoSuchElementException";

    public static void main(String[] args) throws Exception {
        constants();
        members();
        names();
        insides();
        Check.end();
    }

    private static void constants() {
        Check.due("STOPPED", BufferedCores.STOPPED, 0);
        Check.due("DONE", BufferedCores.DONE, 1);
        Check.due("ENDED", BufferedCores.ENDED, 2);
        Check.due("NOTHING", BufferedCores.NOTHING, 3);
        Check.due("BUSY", BufferedCores.BUSY, 4);
    }

    private static void members() throws Exception {
        Set<String> due = new TreeSet<>(Arrays.asList(
            "public static final int STOPPED = 0", "public static final int DONE = 1",
            "public static final int ENDED = 2", "public static final int NOTHING = 3",
            "public static final int BUSY = 4",
            "public BufferedCores(int)",
            "public int code(int, int, int, int) throws " + INDEX + ", " + ARGUMENT + ", " + STATE,
            "public void poke(int, int) throws " + ARGUMENT + ", " + STATE,
            "public int step(int) throws " + INDEX, "public int drain(int) throws " + INDEX,
            "public int grant(int) throws " + INDEX, "public int fill(int) throws " + INDEX,
            "public int register(int, int) throws " + INDEX + ", " + ARGUMENT,
            "public int place(int) throws " + INDEX, "public int buffered(int) throws " + INDEX,
            "public int storeAddress(int, int) throws " + INDEX + ", " + NONE,
            "public int storeValue(int, int) throws " + INDEX + ", " + NONE,
            "public int line(int, int) throws " + INDEX + ", " + ARGUMENT,
            "public int cached(int, int) throws " + INDEX + ", " + ARGUMENT + ", " + NONE,
            "public int request(int) throws " + INDEX,
            "public int memory(int) throws " + ARGUMENT, "public int word(int) throws " + ARGUMENT,
            "public int events()", "public int event(int) throws " + NONE,
            "public int eventValue(int) throws " + NONE));
        Check.due("the face", face(), due);
        int wanted = Modifier.PUBLIC | Modifier.FINAL;
        Check.due("the class's modifiers", BufferedCores.class.getModifiers(), wanted);
        Check.due("the class above it", BufferedCores.class.getSuperclass(), Object.class);
        Check.due("its interfaces", BufferedCores.class.getInterfaces().length, 0);
        Check.due("its package", BufferedCores.class.getPackageName(), "");
    }

    private static Set<String> face() throws IllegalAccessException {
        Set<String> face = new TreeSet<>();
        for (Field f : BufferedCores.class.getDeclaredFields()) {
            if (isSeen(f)) {
                face.add(start(f) + f.getType() + " " + f.getName() + " = " + f.get(null));
            }
        }
        for (Constructor<?> c : BufferedCores.class.getDeclaredConstructors()) {
            if (isSeen(c)) {
                face.add(start(c) + c.getName() + end(c.getParameterTypes(), c.getExceptionTypes()));
            }
        }
        for (Method m : BufferedCores.class.getDeclaredMethods()) {
            if (isSeen(m)) {
                String call = m.getReturnType() + " " + m.getName();
                face.add(start(m) + call + end(m.getParameterTypes(), m.getExceptionTypes()));
            }
        }
        return face;
    }

    private static String start(Member m) {
        return Modifier.toString(m.getModifiers()) + " ";
    }

    private static String end(Class<?>[] parameters, Class<?>[] exceptions) {
        return "(" + names(parameters) + ")" + (exceptions.length == 0 ? "" : " throws " + names(exceptions));
    }

    private static void names() {
        Set<String> open = new HashSet<>();
        for (Method m : BufferedCores.class.getDeclaredMethods()) {
            if (Modifier.isPublic(m.getModifiers())) {
                open.add(m.getName());
            }
        }
        for (Method m : BufferedCores.class.getDeclaredMethods()) {
            if (!Modifier.isPublic(m.getModifiers())) {
                Check.due("a private method named " + m.getName() + " has a public one's name",
                    open.contains(m.getName()), false);
            }
        }
    }

    private static void insides() {
        for (Class<?> inside : BufferedCores.class.getDeclaredClasses()) {
            int modifiers = inside.getModifiers();
            boolean open = Modifier.isPublic(modifiers) || Modifier.isProtected(modifiers);
            Check.due(inside.getName() + " is open", open, false);
            Check.due(inside.getName() + " is static", Modifier.isStatic(modifiers), true);
        }
    }

    private static boolean isSeen(Member m) {
        return !m.isSynthetic() && !Modifier.isPrivate(m.getModifiers());
    }

    private static String names(Class<?>[] types) {
        return Arrays.stream(types).map(Class::getSimpleName).collect(Collectors.joining(", "));
    }
}
