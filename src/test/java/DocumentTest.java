import java.io.IOException;
import java.nio.file.DirectoryStream;
import java.nio.file.Files;
import java.nio.file.Path;
import java.util.ArrayList;
import java.util.List;
import java.util.regex.Matcher;
import java.util.regex.Pattern;

/** Each promise, and each line of the terms that asks for something, has a test that names it. */
final class DocumentTest {
    private static final Pattern PROMISE = Pattern.compile("Check\\.ofPromise\\((\\d+)\\)");
    private static final Pattern LINES = Pattern.compile("Check\\.ofLines\\(\"[^\"]*\",([^;]*)\\);");
    private static final Pattern QUOTED = Pattern.compile("\"([^\"]*)\"");

    public static void main(String[] args) throws IOException {
        Check c = Check.of("document");
        List<Integer> promises = new ArrayList<>();
        List<String> beginnings = new ArrayList<>();
        try (DirectoryStream<Path> tests =
                Files.newDirectoryStream(Path.of("src/test/java"), "*Test.java")) {
            for (Path test : tests) {
                String source = Files.readString(test);
                Matcher promise = PROMISE.matcher(source);
                while (promise.find()) {
                    promises.add(Integer.parseInt(promise.group(1)));
                }
                Matcher lines = LINES.matcher(source);
                while (lines.find()) {
                    Matcher quoted = QUOTED.matcher(lines.group(1));
                    while (quoted.find()) {
                        beginnings.add(quoted.group(1));
                    }
                }
            }
        }
        c.same("promises", Document.promises(), 22);
        for (int number = 1; number <= Document.promises(); number++) {
            c.yes("promise " + number + " has a test", promises.contains(number));
        }
        for (String line : Document.lines()) {
            c.yes("a test names: " + line,
                    beginnings.stream().anyMatch(line::startsWith));
        }
        c.end();
    }
}
