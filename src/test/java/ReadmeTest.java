import java.io.IOException;
import java.lang.reflect.InvocationTargetException;
import java.lang.reflect.Method;
import java.nio.file.Files;
import java.nio.file.Path;
import java.util.HashSet;
import java.util.List;
import java.util.Set;
import java.util.regex.Matcher;
import java.util.regex.Pattern;

/**
 * The example of README.md: each call of it is done, and answers (or throws) what the comment behind it tells. It is
 * looked for where the tests are run from, the project's own folder.
 */
public final class ReadmeTest {
    private static final Pattern CALL = Pattern.compile("c\\.(\\w+)\\((.*)\\);\\s*// (.+)");
    private static final Pattern ANSWER = Pattern.compile("(\"[^\"]*\"|-?\\d+|true|false|throws \\w+)(:.*)?");
    private static int calls;

    public static void main(String[] args) throws IOException, IllegalAccessException {
        Cellruntime c = new Cellruntime();
        boolean isExample = false;
        for (String line : Files.readAllLines(Path.of("README.md"))) {
            if (line.startsWith("```")) isExample = line.equals("```java");
            else if (isExample && !line.isBlank() && !line.equals("Cellruntime c = new Cellruntime();")) check(c, line);
        }
        Due.is("README.md has an example", calls > 20, true);
        namesAreThere();
        Due.end("ReadmeTest");
    }

    private static void check(Cellruntime c, String line) throws IllegalAccessException {
        calls++;
        Matcher call = CALL.matcher(line);
        Due.is("README.md: a call with its answer: " + line, call.matches(), true);
        if (!call.matches()) return;
        Matcher answer = ANSWER.matcher(call.group(3));
        Due.is("README.md: an answer behind: " + line, answer.matches(), true);
        if (answer.matches()) Due.is("README.md: " + line, told(c, call.group(1), call.group(2)), answer.group(1));
    }

    private static String told(Cellruntime c, String name, String numbers) throws IllegalAccessException {
        String[] words = numbers.isEmpty() ? new String[0] : numbers.split(", ");
        Object[] given = new Object[words.length];
        for (int k = 0; k < words.length; k++) {
            if (words[k].equals("true") || words[k].equals("false")) given[k] = Boolean.valueOf(words[k]);
            else given[k] = Integer.valueOf(words[k]);
        }
        for (Method m : Cellruntime.class.getDeclaredMethods()) {
            if (!m.getName().equals(name) || m.getParameterCount() != given.length) continue;
            try {
                Object got = m.invoke(c, given);
                return got instanceof String ? "\"" + got + "\"" : String.valueOf(got);
            } catch (InvocationTargetException e) {
                return "throws " + e.getCause().getClass().getSimpleName();
            }
        }
        return "no such call";
    }

    /** Each test that is run is told in README.md, and each one that is told there is run. */
    private static void namesAreThere() throws IOException {
        Set<String> told = new HashSet<>();
        Matcher name = Pattern.compile("`(\\w+Test)`").matcher(Files.readString(Path.of("README.md")));
        while (name.find()) told.add(name.group(1));
        Set<String> run = new HashSet<>();
        try (var files = Files.list(Path.of("src/test/java"))) {
            List<String> all = files.map(f -> f.getFileName().toString()).filter(f -> f.endsWith("Test.java")).toList();
            for (String f : all) run.add(f.substring(0, f.length() - ".java".length()));
        }
        Due.is("README.md tells the tests", told, run);
    }
}
