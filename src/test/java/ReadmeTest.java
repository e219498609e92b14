import java.io.IOException;
import java.lang.reflect.Method;
import java.nio.file.Files;
import java.nio.file.Path;
import java.util.Set;
import java.util.TreeSet;
import java.util.regex.Matcher;
import java.util.regex.Pattern;

/** README.md's calls answer what stands behind them, and its table names every call of the face. */
public final class ReadmeTest {
    private static final Due due = new Due();

    public static void main(String[] args) throws IOException, ReflectiveOperationException {
        String readme = Files.readString(Path.of("README.md"));
        int begin = readme.indexOf("```java");
        int end = readme.indexOf("```", begin + 3);
        due.holds("there is an example", begin >= 0 && end > begin);
        if (!due.hasWrong()) {
            example(readme.substring(begin, end));
            table(readme.substring(end));
        }
        due.end();
    }

    private static void example(String code) throws ReflectiveOperationException {
        BarrowPlank plank = new BarrowPlank();
        Matcher text = Pattern.compile("String site = \"([^\"]*)\";").matcher(code);
        due.holds("it has a SITE", text.find());
        Tapes.put(plank, text.group(1));
        Matcher calls = Pattern.compile("plank\\.(\\w+)\\(([-0-9, ]*)\\); +// (-?\\d+): ").matcher(code);
        int many = 0;
        while (calls.find()) {
            many++;
            due.is(calls.group(), answer(plank, calls.group(1), calls.group(2)), Long.parseLong(calls.group(3)));
        }
        int lines = code.split("plank\\.", -1).length - 1;
        due.is("calls with an answer, all but feed", many, lines - 1);
    }

    private static long answer(BarrowPlank plank, String name, String numbers) throws ReflectiveOperationException {
        String[] parts = numbers.isEmpty() ? new String[0] : numbers.split(", ");
        Object[] given = new Object[parts.length];
        for (int k = 0; k < parts.length; k++) {
            given[k] = Integer.parseInt(parts[k]);
        }
        for (Method m : BarrowPlank.class.getMethods()) {
            if (m.getName().equals(name) && m.getParameterCount() == given.length) {
                return ((Number) m.invoke(plank, given)).longValue();
            }
        }
        throw new NoSuchMethodException(name);
    }

    private static void table(String readme) {
        Set<String> told = new TreeSet<>();
        Matcher calls = Pattern.compile("`(\\w+)\\(([a-z, ]*)\\)`").matcher(readme);
        while (calls.find()) {
            int numbers = calls.group(2).isEmpty() ? 0 : calls.group(2).split(", ").length;
            told.add(calls.group(1) + " " + numbers);
        }
        for (Method m : BarrowPlank.class.getDeclaredMethods()) {
            String name = m.getName() + " " + m.getParameterCount();
            due.holds("the table has " + name, (m.getModifiers() & 1) == 0 || told.contains(name));
        }
    }
}
