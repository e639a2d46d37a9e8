import java.io.File;
import java.io.IOException;
import java.lang.reflect.InvocationTargetException;
import java.lang.reflect.Method;
import java.nio.charset.StandardCharsets;
import java.nio.file.Files;
import java.nio.file.Path;
import java.util.ArrayList;
import java.util.List;
import java.util.Set;
import java.util.TreeSet;
import java.util.regex.Matcher;
import java.util.regex.Pattern;

/** README.md tells the truth: each call that it shows answers as it says, and it names every test and every call. */
public final class ReadmeTest {
    private static final String MADE = "Pistekeeper x = new Pistekeeper();";
    private static final Pattern SHOWN = Pattern.compile("x\\.(\\w+)\\((.*?)\\); +// (throws )?([-\\w.]+)(?:[:,] .*)?");

    public static void main(String[] args) throws IOException, IllegalAccessException {
        List<String> lines = Files.readAllLines(Path.of("README.md"), StandardCharsets.UTF_8);
        List<String> program = program(lines);
        answersAreAsShown(program);
        everyCallIsNamed(String.join("\n", lines));
        everyTestIsNamed(lines);
        Check.end("ReadmeTest");
    }

    /** The lines of the block of Java. */
    private static List<String> program(List<String> lines) {
        int first = lines.indexOf("```java");
        Check.same("there is a run of calls", first >= 0, true);
        if (first < 0) {
            return List.of();
        }
        List<String> rest = lines.subList(first + 1, lines.size());
        int end = rest.indexOf("```");
        return rest.subList(0, end < 0 ? rest.size() : end);
    }

    private static void answersAreAsShown(List<String> program) throws IllegalAccessException {
        Check.same("it begins with a new object", program.indexOf(MADE), 0);
        Pistekeeper x = new Pistekeeper();
        for (String line : program) {
            Matcher shown = SHOWN.matcher(line);
            if (shown.matches()) {
                String due = shown.group(4);
                String got = answer(x, shown.group(1), shown.group(2));
                boolean asThrown = shown.group(3) != null;
                Check.same(line + " -- answered " + got, got.equals(asThrown ? "throws " + due : due), true);
            } else {
                // What is no call with its answer would go by unseen.
                boolean isNoCall = line.equals(MADE) || line.isEmpty() || line.startsWith("// ----");
                Check.same("a call with its answer: " + line, isNoCall, true);
            }
        }
    }

    private static String answer(Pistekeeper x, String name, String taken) throws IllegalAccessException {
        String[] texts = taken.isEmpty() ? new String[0] : taken.split(", ");
        for (Method method : Pistekeeper.class.getDeclaredMethods()) {
            if (method.getName().equals(name) && method.getParameterCount() == texts.length) {
                try {
                    return String.valueOf(method.invoke(x, values(method, texts)));
                } catch (InvocationTargetException e) {
                    return "throws " + e.getCause().getClass().getSimpleName();
                }
            }
        }
        return "no such call";
    }

    private static Object[] values(Method method, String[] texts) {
        Object[] values = new Object[texts.length];
        for (int i = 0; i < texts.length; i++) {
            boolean isTruth = method.getParameterTypes()[i] == boolean.class;
            if (isTruth) {
                values[i] = Boolean.valueOf(texts[i]);
            } else {
                values[i] = Integer.valueOf(texts[i]);
            }
        }
        return values;
    }

    private static void everyCallIsNamed(String text) {
        for (Method method : Pistekeeper.class.getMethods()) {
            if (method.getDeclaringClass() == Pistekeeper.class) {
                Check.same("named: " + method.getName(), text.contains("`" + method.getName() + "`"), true);
            }
        }
    }

    private static void everyTestIsNamed(List<String> lines) {
        Set<String> named = new TreeSet<>();
        Matcher row = Pattern.compile("^\\| `(\\w+Test)` \\|", Pattern.MULTILINE).matcher(String.join("\n", lines));
        while (row.find()) {
            named.add(row.group(1));
        }
        List<String> there = new ArrayList<>();
        for (File file : new File("src/test/java").listFiles()) {
            if (file.getName().endsWith("Test.java")) {
                there.add(file.getName().replace(".java", ""));
            }
        }
        for (String each : there) {
            Check.same("named: " + each, named.contains(each), true);
        }
        for (String each : named) {
            Check.same("there is " + each, there.contains(each), true);
        }
    }
}
