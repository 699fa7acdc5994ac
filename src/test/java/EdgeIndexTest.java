import java.io.IOException;
import java.nio.file.DirectoryStream;
import java.nio.file.Files;
import java.nio.file.Path;
import java.util.regex.Matcher;
import java.util.regex.Pattern;

/** Each promise, and each of the document's four parts of terms, has tests of its boundaries in the Edge tests. */
public final class EdgeIndexTest {
    private static final String[] TERMS = {"text_", "fault1_", "fault2_", "fault3_", "fault4_", "faults_", "cos_", "sin_", "place_",
        "alike_", "solutions_", "tooMany_", "why_", "side_", "bend_", "measure_", "singular_", "ticks_", "step_", "kept_", "route_",
        "now_", "aim_", "undone_", "order_", "object_"};

    public static void main(String[] args) throws IOException {
        StringBuilder methods = new StringBuilder();
        try (DirectoryStream<Path> tests = Files.newDirectoryStream(Path.of("src/test/java"), "Edge*Test.java")) {
            for (Path test : tests) {
                Matcher m = Pattern.compile("static void (\\w+)\\(\\)").matcher(Files.readString(test));
                while (m.find()) {
                    methods.append(' ').append(m.group(1));
                }
            }
        }
        for (int promise = 1; promise <= 43; promise++) {
            String name = (promise < 10 ? " p0" : " p") + promise + "_";
            Check.due("a test of promise " + promise, methods.indexOf(name) >= 0, true);
        }
        for (String term : TERMS) {
            Check.due("a test of " + term, methods.indexOf(" " + term) >= 0, true);
        }
        Check.end("EdgeIndexTest");
    }
}
