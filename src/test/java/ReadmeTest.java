import java.io.File;
import java.lang.reflect.InvocationTargetException;
import java.lang.reflect.Method;
import java.lang.reflect.Modifier;
import java.nio.file.Files;
import java.nio.file.Path;
import java.util.Arrays;
import java.util.List;
import java.util.TreeSet;
import java.util.regex.Matcher;
import java.util.regex.Pattern;

/** What README.md says: its example answers so, and its tables name each call and each test. */
public final class ReadmeTest {
    /** A line of the example: the call, what it is told, and what it answers, up to a colon. */
    private static final Pattern LINE = Pattern.compile("x\\.(\\w+)\\((.*)\\); +// ([^:]*): .*");
    private static final Pattern GROUP = Pattern.compile("\\| ([\\w ,]+) \\| ((?:`\\w+`(?:, )?)+) \\|");
    private static final Pattern HEADING = Pattern.compile("==== ([\\w ,]+)");

    public static void main(String[] args) throws Exception {
        List<String> readme = Files.readAllLines(Path.of("README.md"));
        example(readme);
        Check.due("the groups of calls", groups(readme), groupsTold(Files.readString(Path.of("../shared/DOC.md"))));
        Check.due("the tests", testsNamed(readme), testsThere());
        Check.end("ReadmeTest");
    }

    // ---- the example

    private static void example(List<String> readme) throws Exception {
        Leastbag x = new Leastbag();
        int from = readme.indexOf("```java") + 1;
        int to = readme.lastIndexOf("```");
        Check.due("the example's first line", readme.get(from), "Leastbag x = new Leastbag();");
        for (String line : readme.subList(from + 1, to)) {
            Matcher matcher = LINE.matcher(line);
            Check.due("the example's form of " + line, matcher.matches(), true);
            Check.due("the example: " + line, answer(x, matcher.group(1), matcher.group(2)), matcher.group(3));
        }
    }

    private static String answer(Leastbag x, String name, String told) throws Exception {
        String[] words = told.isEmpty() ? new String[0] : told.split(", ");
        Object[] values = new Object[words.length];
        for (int k = 0; k < words.length; k++) {
            values[k] = words[k].equals("true") || words[k].equals("false")
                    ? (Object) Boolean.valueOf(words[k]) : Integer.valueOf(words[k]);
        }
        try {
            Object answer = methodOf(name).invoke(x, values);
            return answer instanceof String ? "\"" + answer + "\"" : String.valueOf(answer);
        } catch (InvocationTargetException e) {
            return "throws " + e.getCause().getClass().getSimpleName();
        }
    }

    private static Method methodOf(String name) throws NoSuchMethodException {
        for (Method method : Leastbag.class.getDeclaredMethods()) {
            if (Modifier.isPublic(method.getModifiers()) && method.getName().equals(name)) {
                return method;
            }
        }
        throw new NoSuchMethodException(name);
    }

    // ---- the tables

    /** "group: calls", as the page has them. */
    private static TreeSet<String> groups(List<String> readme) {
        TreeSet<String> groups = new TreeSet<>();
        for (String line : readme) {
            Matcher matcher = GROUP.matcher(line);
            if (matcher.matches()) {
                groups.add(matcher.group(1) + ": " + matcher.group(2).replace("`", ""));
            }
        }
        return groups;
    }

    /** The same as the document has them: a group's name stands in its first promise, and promise 1 is in none. */
    private static TreeSet<String> groupsTold(String document) {
        TreeSet<String> groups = new TreeSet<>();
        String[] promises = document.split("## Promise \\d+: ");
        String group = "";
        for (int k = 2; k < promises.length; k++) {
            String name = promises[k].substring(0, promises[k].indexOf('\n'));
            Matcher heading = HEADING.matcher(promises[k]);
            if (heading.find()) {
                group = heading.group(1) + ": " + name;
            } else {
                groups.remove(group);
                group += ", " + name;
            }
            groups.add(group);
        }
        return groups;
    }

    private static TreeSet<String> testsNamed(List<String> readme) {
        TreeSet<String> named = new TreeSet<>();
        for (String line : readme) {
            if (line.matches("\\| `\\w+Test` \\| .*")) {
                named.add(line.substring(3, line.indexOf('`', 3)));
            }
        }
        return named;
    }

    private static TreeSet<String> testsThere() {
        TreeSet<String> there = new TreeSet<>();
        for (String file : Arrays.asList(new File("src/test/java").list())) {
            if (file.endsWith("Test.java")) {
                there.add(file.substring(0, file.length() - ".java".length()));
            }
        }
        return there;
    }
}
