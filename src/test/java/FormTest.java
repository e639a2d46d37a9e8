import java.io.IOException;
import java.lang.reflect.Field;
import java.lang.reflect.Modifier;
import java.nio.charset.StandardCharsets;
import java.nio.file.Files;
import java.nio.file.Path;
import java.util.ArrayList;
import java.util.List;
import java.util.Set;
import java.util.regex.Matcher;
import java.util.regex.Pattern;

/** What of LANGUAGE.md can be seen in the program's text; the face (rules 1 and 5) is FaceTest's. */
public final class FormTest {
    private static final int MOST_LINES = 60;
    private static final int MOST_PARAMETERS = 7;
    private static final int MOST_CLASSES = 12;
    private static final int MOST_FIELDS = 20;
    // What the program uses of the library that rule 4 lists, and of the exceptions of rule 6: no more is needed.
    private static final Set<String> LIBRARY = Set.of("Math.min", "Math.max", "System.arraycopy");
    private static final Set<String> THROWN = Set.of(
            "IllegalStateException", "IllegalArgumentException", "IndexOutOfBoundsException");
    private static final Pattern METHOD = Pattern.compile("    (?:    )?(?:[\\w\\[\\]]+ )*\\w+\\((.*)");

    public static void main(String[] args) throws IOException {
        Path file = Path.of("src/main/java/Pistekeeper.java");
        List<String> lines = Files.readAllLines(file, StandardCharsets.UTF_8);
        String code = withoutTextsAndComments(String.join("\n", lines));
        wordsOfOtherRules(code);
        libraryIsListed(code);
        exceptionsAreTheDocuments(code);
        loopsEnd(code);
        methodsAreShort(lines);
        classesAreSmall();
        Check.end("FormTest");
    }

    private static String withoutTextsAndComments(String text) {
        String bare = text.replaceAll("(?s)/\\*.*?\\*/", "").replaceAll("//[^\n]*", "");
        return bare.replaceAll("\"[^\"\n]*\"", "\"\"");
    }

    /** Rules 1, 2, 5, 6 and 13; and the machine's exceptions are neither caught nor thrown. */
    private static void wordsOfOtherRules(String code) {
        String[] words = {
            "package", "import", "synchronized", "assert", "try", "catch", "finally", "native", "volatile", "transient",
            "strictfp", "protected", "instanceof", "Object", "Random", "Thread", "equals", "hashCode", "toString"
        };
        for (String word : words) {
            Check.same("no " + word, Pattern.compile("\\b" + word + "\\b").matcher(code).find(), false);
        }
        Check.same("2: no lambda", code.contains("->"), false);
        Check.same("2: no method reference", code.contains("::"), false);
        Check.same("5: no static initialiser", Pattern.compile("static\\s*\\{").matcher(code).find(), false);
        Check.same("2: classes inside are static", code.contains("    private final class"), false);
        for (int at = 0; at < code.length(); at++) {
            if (code.charAt(at) > 126) {
                Check.fail("4: a sign above 126: " + code.charAt(at));
            }
        }
    }

    /** Rule 4. */
    private static void libraryIsListed(String code) {
        Matcher call = Pattern.compile("\\b[A-Z]\\w*\\.\\w+(?=\\()").matcher(code);
        while (call.find()) {
            Check.same("4: listed: " + call.group(), LIBRARY.contains(call.group()), true);
        }
    }

    /** Rule 6. */
    private static void exceptionsAreTheDocuments(String code) {
        Matcher thrown = Pattern.compile("\\bthrow\\b(?: new (\\w+)\\(\"\"\\);)?").matcher(code);
        while (thrown.find()) {
            String name = thrown.group(1);
            Check.same("6: may be thrown: " + name, name != null && THROWN.contains(name), true);
        }
    }

    /** Rule 9: all loops here are counted ones, whose bound stands in their own line. */
    private static void loopsEnd(String code) {
        Check.same("9: no while", Pattern.compile("\\b(while|do)\\b").matcher(code).find(), false);
        Pattern counted = Pattern.compile("for \\(int (\\w+) = [^;]+; [^;]*\\b\\1\\b[^;]*[<>][^;]*; \\1(\\+\\+|--)\\) \\{");
        Matcher loop = Pattern.compile("\\bfor [^\n]*").matcher(code);
        while (loop.find()) {
            Check.same("9: counted: " + loop.group(), counted.matcher(loop.group()).matches(), true);
        }
    }

    /** Rule 11. */
    private static void methodsAreShort(List<String> lines) {
        int methods = 0;
        for (int first = 0; first < lines.size(); first++) {
            Matcher head = METHOD.matcher(lines.get(first));
            if (head.matches()) {
                methods++;
                int end = endOf(lines, first);
                String what = "11: " + lines.get(first).trim();
                Check.same(what + " is short", end - first < MOST_LINES, true);
                Check.same(what + " takes few", head.group(1).split(",").length <= MOST_PARAMETERS, true);
            }
        }
        Check.same("11: methods were seen", methods > 50, true);
    }

    /** The line of the brace that stands as far to the right as the head. */
    private static int endOf(List<String> lines, int first) {
        String indent = lines.get(first).replaceAll("\\S.*", "");
        int end = first;
        while (end < lines.size() && !lines.get(end).equals(indent + "}")) {
            end++;
        }
        return end;
    }

    /** Rule 11. */
    private static void classesAreSmall() {
        List<Class<?>> all = new ArrayList<>(List.of(Pistekeeper.class.getDeclaredClasses()));
        all.add(Pistekeeper.class);
        Check.same("11: classes", all.size() <= MOST_CLASSES, true);
        for (Class<?> each : all) {
            int fields = 0;
            for (Field field : each.getDeclaredFields()) {
                fields += Modifier.isStatic(field.getModifiers()) ? 0 : 1;
            }
            Check.same("11: fields of " + each.getSimpleName(), fields <= MOST_FIELDS, true);
        }
    }
}
