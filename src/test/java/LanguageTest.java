import java.io.IOException;
import java.lang.reflect.Field;
import java.lang.reflect.Method;
import java.lang.reflect.Modifier;
import java.nio.file.Files;
import java.nio.file.Path;
import java.util.ArrayList;
import java.util.List;
import java.util.Set;
import java.util.regex.Matcher;
import java.util.regex.Pattern;
import java.util.stream.Stream;

/** What of the rules of LANGUAGE.md can be seen in the file and in the class; rule 1 is FaceTest's. */
final class LanguageTest {
    private static final Path MAIN = Path.of("src/main/java");
    private static final Set<String> IMPORTS = Set.of("java.util.ArrayList", "java.util.List", "java.util.Iterator",
        "java.util.Arrays", "java.util.NoSuchElementException");
    private static final Set<String> EXCEPTIONS = Set.of("IllegalStateException", "IllegalArgumentException",
        "IndexOutOfBoundsException", "ArithmeticException", "UnsupportedOperationException",
        "NoSuchElementException", "RuntimeException");
    private static final Set<String> CONSTANTS = Set.of("int", "long", "boolean", "char", "String",
        "int[]", "long[]", "char[]", "byte[]");
    private static final String[] LEFT_OUT = {"->", "::", "\\bfinally\\b", "\\bsynchronized\\b", "\\bassert\\b",
        "\\bvolatile\\b", "\\bnative\\b", "\\bgetMessage\\b", "\\bprintStackTrace\\b", "\\bhashCode\\b",
        "\\bThread\\b", "\\bRandom\\b", "\\brandom\\b", "\\bSystem\\.(?!arraycopy)", "\\bMath\\.\\w*Exact\\b",
        "\\bjava\\.(?!util\\.NoSuchElementException)", "@Suppress", "\\bstatic\\s*\\{"};

    public static void main(String[] args) throws IOException {
        List<Class<?>> classes = new ArrayList<>(List.of(BufferedCores.class.getDeclaredClasses()));
        classes.add(BufferedCores.class);
        String source = Files.readString(MAIN.resolve("BufferedCores.java"));
        oneFile();
        imports(source);
        leftOut(bare(source));
        thrown(bare(source));
        lengths(source);
        fields(classes);
        sizes(classes);
        Check.end();
    }

    private static void oneFile() throws IOException {
        try (Stream<Path> files = Files.walk(MAIN)) {
            Check.due("the files of the program", files.filter(Files::isRegularFile).toList(),
                List.of(MAIN.resolve("BufferedCores.java")));
        }
    }

    private static void imports(String source) {
        Matcher m = Pattern.compile("(?m)^\\s*(import|package)\\s+([^;]+);").matcher(source);
        while (m.find()) {
            boolean fine = m.group(1).equals("import") && IMPORTS.contains(m.group(2));
            Check.due(m.group() + " is fine", fine, true);
        }
    }

    private static void leftOut(String bare) {
        for (String word : LEFT_OUT) {
            Matcher m = Pattern.compile(word).matcher(bare);
            Check.due("what is left out, " + word + ", is there", m.find(), false);
        }
        Check.due("all characters are plain", bare.chars().allMatch(c -> c < 127), true);
    }

    /** A throw makes its exception itself, of a class that is listed, with a written text or none. */
    private static void thrown(String bare) {
        Matcher m = Pattern.compile("\\bthrow\\b(\\s+new\\s+(\\w+)\\((\"\")?\\);)?").matcher(bare);
        while (m.find()) {
            Check.due(m.group() + " is fine", m.group(2) != null && EXCEPTIONS.contains(m.group(2)), true);
        }
    }

    /** By the file's own indents: a method's last line is the first brace that stands as far out as its first. */
    private static void lengths(String source) {
        List<String> lines = source.lines().toList();
        Pattern head = Pattern.compile("( {4}| {8})(\\w[\\w\\[\\]<> ]*)\\(.*");
        for (int i = 0; i < lines.size(); i++) {
            Matcher m = head.matcher(lines.get(i));
            if (m.matches() && !lines.get(i).endsWith(";")) {
                int end = lines.subList(i, lines.size()).indexOf(m.group(1) + "}");
                Check.due(lines.get(i).trim() + " has at most sixty lines", end >= 0 && end < 60, true);
            }
        }
    }

    private static void fields(List<Class<?>> classes) {
        for (Class<?> c : classes) {
            for (Field f : c.getDeclaredFields()) {
                String type = f.getType().getSimpleName();
                boolean isStatic = Modifier.isStatic(f.getModifiers());
                boolean isConstant = Modifier.isFinal(f.getModifiers()) && CONSTANTS.contains(type);
                Check.due(f + " is fine", isStatic ? isConstant : isHeld(f.getType(), classes), true);
            }
        }
    }

    private static boolean isHeld(Class<?> type, List<Class<?>> own) {
        Class<?> element = type.isArray() ? type.getComponentType() : type;
        return element.isPrimitive() || own.contains(element) || element.getName().equals("java.lang.String");
    }

    private static void sizes(List<Class<?>> classes) {
        Check.due("at most twelve classes", classes.size() <= 12, true);
        for (Class<?> c : classes) {
            long fields = Stream.of(c.getDeclaredFields()).filter(f -> !Modifier.isStatic(f.getModifiers())).count();
            Check.due(c + " has at most twenty fields", fields <= 20, true);
            for (Method m : c.getDeclaredMethods()) {
                Check.due(m + " takes at most seven", m.getParameterCount() <= 7, true);
            }
        }
    }

    /** The source without its comments and imports, and with every text empty. */
    private static String bare(String source) {
        return source.replaceAll("\"([^\"\\\\]|\\\\.)*\"", "\"\"")
            .replaceAll("(?s)/\\*.*?\\*/", "")
            .replaceAll("//[^\n]*", "")
            .replaceAll("(?m)^import .*$", "");
    }
}
