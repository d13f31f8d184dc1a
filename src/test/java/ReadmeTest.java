import java.lang.reflect.Method;
import java.nio.file.Files;
import java.nio.file.Path;
import java.util.Set;
import java.util.TreeSet;
import java.util.regex.Matcher;
import java.util.regex.Pattern;
import java.util.stream.Stream;

/** What README.md says holds: the answers behind the calls that it shows, the tests and classes that it names. */
public final class ReadmeTest {
    private static final Path SOURCE = Path.of("src/main/java/JanusMill.java");
    private static final Path TESTS = Path.of("src/test/java");

    public static void main(String[] args) throws Exception {
        String readme = Files.readString(Path.of("README.md"));
        calls(readme);
        tests(readme);
        classes(readme);
        rowsOfConstructor();
        Mill.finish();
    }

    /** Every method of the face is shown, each call on one object in the order in which they stand. */
    private static void calls(String readme) throws Exception {
        JanusMill mill = new JanusMill();
        Set<String> shown = new TreeSet<>();
        Matcher call = Pattern.compile("(?m)^mill\\.(\\w+)\\((.*?)\\);(.*)$").matcher(readme);
        while (call.find()) {
            Matcher answer = Pattern.compile(" +// (-?\\d+)\\b.*").matcher(call.group(3));
            Mill.due("an answer stands behind " + call.group(), answer.matches());
            String[] given = call.group(2).isEmpty() ? new String[0] : call.group(2).split(", ");
            long got = answered(mill, call.group(1), given);
            Mill.due(call.group(), got, answer.matches() ? Long.parseLong(answer.group(1)) : 0);
            shown.add(call.group(1));
        }
        for (Method m : JanusMill.class.getMethods()) {
            if (m.getDeclaringClass() == JanusMill.class) {
                Mill.due("README.md shows " + m.getName(), shown.contains(m.getName()));
            }
        }
    }

    private static long answered(JanusMill mill, String name, String[] given) throws Exception {
        for (Method m : JanusMill.class.getMethods()) {
            if (m.getName().equals(name) && m.getParameterCount() == given.length) {
                Object[] numbers = new Object[given.length];
                for (int i = 0; i < given.length; i++) {
                    numbers[i] = number(m.getParameterTypes()[i], given[i]);
                }
                return ((Number) m.invoke(mill, numbers)).longValue();
            }
        }
        Mill.due("there is " + name, false);
        return 0;
    }

    private static Object number(Class<?> kind, String given) {
        if (kind == boolean.class) {
            return Boolean.parseBoolean(given);
        }
        long number = Long.decode(given);
        if (kind == long.class) {
            return number;
        }
        return (int) number;
    }

    private static void tests(String readme) throws Exception {
        Set<String> there = new TreeSet<>();
        try (Stream<Path> files = Files.list(TESTS)) {
            files.map(f -> f.getFileName().toString()).filter(f -> f.endsWith("Test.java")).forEach(f -> there.add(f.replace(".java", "")));
        }
        Mill.due("tests that README.md names", named(readme, "`(\\w+Test)`").toString(), there.toString());
        Mill.due(".ci/run can be run", Files.isExecutable(Path.of(".ci/run")));
    }

    private static void classes(String readme) {
        Set<String> there = new TreeSet<>();
        for (Class<?> c : JanusMill.class.getDeclaredClasses()) {
            there.add(c.getSimpleName());
        }
        String how = readme.substring(readme.indexOf("## How it is made"), readme.indexOf("## Tests"));
        Mill.due("classes that README.md names", named(how, "`(\\w+)`").toString(), there.toString());
    }

    private static Set<String> named(String text, String pattern) {
        Set<String> names = new TreeSet<>();
        Matcher name = Pattern.compile(pattern).matcher(text);
        while (name.find()) {
            names.add(name.group(1));
        }
        return names;
    }

    /** "no call makes objects": each new stands in a field's own line. */
    private static void rowsOfConstructor() throws Exception {
        for (String line : Files.readAllLines(SOURCE)) {
            String bare = line.replaceAll("//.*|/\\*\\*.*", "");
            if (bare.matches(".*\\bnew\\b.*")) {
                Mill.due("a field's line: " + line.trim(), bare.matches(" +private (final )?[\\w\\[\\]]+ \\w+ = new .*;"));
            }
        }
    }
}
