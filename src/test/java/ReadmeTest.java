import java.io.IOException;
import java.lang.reflect.Method;
import java.lang.reflect.Modifier;
import java.nio.file.DirectoryStream;
import java.nio.file.Files;
import java.nio.file.Path;
import java.util.regex.Matcher;
import java.util.regex.Pattern;

/** README.md: its example is made call by call, and it names every call of the face and every test. */
public final class ReadmeTest {
    private static final Pattern MADE = Pattern.compile("SixJoints arm = new SixJoints\\(\\);");
    private static final Pattern TOLD = Pattern.compile("tell\\(arm, \"([^\"]*)\"\\);\\s+// (-?\\d+).*");
    private static final Pattern CALLED = Pattern.compile("arm\\.(\\w+)\\(([^)]*)\\);\\s+// (-?\\d+|true)\\b.*");

    public static void main(String[] args) throws Exception {
        String page = Files.readString(Path.of("README.md"));
        namesEveryCall(page);
        namesEveryTest(page);
        Check.due("calls of the example", exampleHolds(page) > 20, true);
        Check.end("ReadmeTest");
    }

    private static void namesEveryCall(String page) {
        for (Method m : SixJoints.class.getDeclaredMethods()) {
            if (Modifier.isPublic(m.getModifiers())) {
                String row = "(?m)^\\| `" + m.getName() + "\\((\\w+(, \\w+){" + Math.max(0, m.getParameterCount() - 1) + "})?\\)` \\| .+ \\|$";
                Check.due("a row of " + m.getName(), Pattern.compile(row).matcher(page).find(), true);
            }
        }
    }

    private static void namesEveryTest(String page) throws IOException {
        try (DirectoryStream<Path> tests = Files.newDirectoryStream(Path.of("src/test/java"), "*Test.java")) {
            for (Path test : tests) {
                String name = test.getFileName().toString().replace(".java", "");
                Check.due("a word on " + name, Pattern.compile("(?m)^\\|.*\\b" + name + "\\b.*\\|").matcher(page).find(), true);
            }
        }
    }

    /** The second block of Java: how many of its lines answered something. */
    private static int exampleHolds(String page) throws Exception {
        String[] blocks = page.split("```java\n");
        Check.due("blocks", blocks.length, 3);
        SixJoints arm = null;
        int answered = 0;
        for (String line : blocks[2].substring(0, blocks[2].indexOf("```")).split("\n")) {
            Matcher told = TOLD.matcher(line);
            Matcher called = CALLED.matcher(line);
            if (MADE.matcher(line).matches()) {
                arm = new SixJoints();
            } else if (told.matches()) {
                Check.due(line, Check.tell(arm, told.group(1)), Long.parseLong(told.group(2)));
                answered++;
            } else if (called.matches()) {
                String want = called.group(3);
                Check.due(line, answerOf(arm, called.group(1), called.group(2)), want.equals("true") ? 1 : Long.parseLong(want));
                answered++;
            } else {
                Check.due("a line that is none: " + line, line.isBlank(), true);
            }
        }
        return answered;
    }

    private static long answerOf(SixJoints arm, String name, String list) throws Exception {
        String[] words = list.isEmpty() ? new String[0] : list.split(", ");
        for (Method m : SixJoints.class.getDeclaredMethods()) {
            Class<?>[] types = m.getParameterTypes();
            if (m.getName().equals(name) && types.length == words.length) {
                Object[] values = new Object[words.length];
                for (int i = 0; i < words.length; i++) {
                    values[i] = valueOf(words[i], types[i]);
                }
                Object answer = m.invoke(arm, values);
                return answer instanceof Boolean yes ? (yes ? 1 : 0) : ((Number) answer).longValue();
            }
        }
        throw new IllegalStateException("no such call: " + name);
    }

    private static Object valueOf(String word, Class<?> type) {
        if (type == boolean.class) {
            return word.equals("true");
        }
        String[] shifted = word.split(" << ");
        long number = Long.parseLong(shifted[0]) << (shifted.length > 1 ? Integer.parseInt(shifted[1]) : 0);
        return type == long.class ? (Object) number : (Object) (int) number;
    }
}
