import java.lang.reflect.InvocationTargetException;
import java.lang.reflect.Method;
import java.nio.file.Files;
import java.nio.file.Path;
import java.util.Arrays;
import java.util.List;
import java.util.regex.Matcher;
import java.util.regex.Pattern;

/** README.md: the calls of its example answer what stands behind them. */
final class ReadmeTest {
    private static final Pattern CALL = Pattern.compile("m\\.(\\w+)\\(([-0-9, ]*)\\); +// ([^:]+)(: .+)?");
    private static final String FIRST = "BufferedCores m = new BufferedCores(2);";

    public static void main(String[] args) throws Exception {
        List<String> lines = Files.readAllLines(Path.of("README.md"));
        int begin = lines.indexOf("```java");
        List<String> example = lines.subList(begin + 1, lines.size());
        example = example.subList(0, example.indexOf("```"));
        Check.due("the example's first line", example.get(0), FIRST);
        BufferedCores m = new BufferedCores(2);
        for (String line : example.subList(1, example.size())) {
            Matcher call = CALL.matcher(line);
            Check.due("a call and its answer in " + line, call.matches(), true);
            if (call.matches()) {
                Check.due(line, answer(m, call.group(1), numbers(call.group(2))), call.group(3));
            }
        }
        Check.end();
    }

    private static Object[] numbers(String text) {
        return text.isEmpty() ? new Object[0] : Arrays.stream(text.split(", ")).map(Integer::valueOf).toArray();
    }

    private static String answer(BufferedCores m, String name, Object[] numbers) throws Exception {
        Class<?>[] types = new Class<?>[numbers.length];
        Arrays.fill(types, int.class);
        Method call = BufferedCores.class.getMethod(name, types);
        try {
            Object answer = call.invoke(m, numbers);
            return answer == null ? "nothing" : named(name, (Integer) answer);
        } catch (InvocationTargetException e) {
            return "throws " + e.getCause().getClass().getSimpleName();
        }
    }

    private static String named(String name, int answer) {
        String[] constants = {"STOPPED", "DONE", "ENDED", "NOTHING", "BUSY"};
        boolean isAct = List.of("step", "drain", "grant", "fill").contains(name);
        return isAct && answer >= 0 && answer < constants.length ? constants[answer] : Integer.toString(answer);
    }
}
