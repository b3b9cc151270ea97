import java.io.IOException;
import java.lang.reflect.Method;
import java.nio.file.Files;
import java.nio.file.Path;
import java.util.Arrays;
import java.util.Set;
import java.util.TreeSet;
import java.util.regex.Matcher;
import java.util.regex.Pattern;

/** The calls that README.md shows answer what stands beside them, and it shows each call. */
public final class ReadmeTest {
    private static final Pattern CALL = Pattern.compile("forms\\.(\\w+)\\(([^)]*)\\); +// (-?\\w+)(:.*)?");
    private static final Due due = new Due("ReadmeTest");

    public static void main(String[] args) throws IOException, ReflectiveOperationException {
        QuadraticForms forms = new QuadraticForms();
        Set<String> shown = new TreeSet<>();
        for (String line : Files.readAllLines(Path.of("README.md"))) {
            Matcher call = CALL.matcher(line);
            if (call.matches()) {
                due.is(line, answer(forms, call.group(1), call.group(2)), wanted(call.group(3)));
                shown.add(call.group(1));
            } else {
                due.is("a call without an answer: " + line, line.startsWith("forms.") ? 1 : 0, 0);
            }
        }
        for (Method method : QuadraticForms.class.getMethods()) {
            if (method.getDeclaringClass() == QuadraticForms.class) {
                due.is(method.getName() + " is shown:", shown.contains(method.getName()) ? 1 : 0, 1);
            }
        }
        due.end();
    }

    private static int answer(QuadraticForms forms, String name, String list) throws ReflectiveOperationException {
        Object[] values = Arrays.stream(list.split(", *")).filter(word -> !word.isEmpty())
            .map(Integer::valueOf).toArray();
        Class<?>[] types = new Class<?>[values.length];
        Arrays.fill(types, int.class);
        return (int) QuadraticForms.class.getMethod(name, types).invoke(forms, values);
    }

    private static int wanted(String word) {
        switch (word) {
            case "BAD_ARG":
                return Due.BAD_ARG;
            case "NONE":
                return Due.NONE;
            default:
                return Integer.parseInt(word);
        }
    }
}
