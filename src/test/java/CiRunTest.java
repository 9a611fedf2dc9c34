import java.io.IOException;
import java.nio.file.Files;
import java.nio.file.Path;
import java.nio.file.StandardCopyOption;
import java.util.List;
import java.util.stream.Stream;

/** .ci/run runs every test and fails if one fails: it is tried in small projects. */
final class CiRunTest {
    private static final Check C = Check.of(".ci/run");
    private static final Path PROJECT = Path.of("build/ci/main").toAbsolutePath();
    private static final Path SHARED = Path.of("build/ci/shared/tests").toAbsolutePath();
    private static final String GOOD_CLASS = "public final class Pommel {}";

    public static void main(String[] args) throws IOException, InterruptedException {
        Shell.delete(PROJECT.getParent());
        everyTestIsSeen();
        passes();
        fails();
        Shell.delete(PROJECT.getParent());
        C.end();
    }

    /** The names of the files that are programs, in this project's tests. */
    static List<String> tests() throws IOException {
        Path folder = Path.of("src/test/java");
        try (Stream<Path> all = Files.walk(folder)) {
            return all.filter(CiRunTest::isProgram)
                    .map(file -> folder.relativize(file).toString().replace(".java", ""))
                    .sorted().toList();
        }
    }

    /** Each test here has a name by which it is taken. */
    private static void everyTestIsSeen() throws IOException {
        C.yes("tests: " + tests().size(), tests().size() > 40);
        for (String test : tests()) {
            C.yes(test + " is taken", test.matches("\\w+Test"));
        }
    }

    private static void passes() throws IOException, InterruptedException {
        Shell.Result all = run(GOOD_CLASS, 0, 0);
        C.same("all pass", all.code(), 0);
        for (String test : new String[] {"FirstTest", "LastTest", "Given", "Other"}) {
            C.same(test + " ran once", all.printed().split(test + " ran", -1).length - 1, 1);
        }
        C.yes("it is told: " + all.printed(), all.printed().contains("4 passed, 0 failed"));
        Shell.Result again = Shell.run(PROJECT.getParent(), "main/.ci/run");
        C.same("from another folder, a second time", again.code(), 0);
        Shell.Result inside = Shell.run(PROJECT.resolve(".ci"), "sh", "run");
        C.same("from its own folder", inside.code(), 0);
    }

    private static void fails() throws IOException, InterruptedException {
        Shell.Result own = run(GOOD_CLASS, 1, 0);
        C.same("a test of the project fails", own.code(), 1);
        C.yes("the others are run: " + own.printed(),
                own.printed().contains("3 passed, 1 failed"));
        Shell.Result given = run(GOOD_CLASS, 0, 1);
        C.same("a test under ../shared/tests fails", given.code(), 1);
        C.yes("the others are run: " + given.printed(),
                given.printed().contains("3 passed, 1 failed"));
        C.same("a test does not compile",
                run(GOOD_CLASS, "return 0;", 0).code(), 1);
        C.same("the class does not compile", run("public final class Pommel {", 0, 0).code(), 1);
        C.same("the class is warned of", run("import java.util.ArrayList;\n"
                + "public final class Pommel { ArrayList a; }", 0, 0).code(), 1);
        run(GOOD_CLASS, 0, 0);
        Shell.delete(SHARED);
        C.same("no tests under ../shared/tests", again().code(), 1);
    }

    private static Shell.Result run(String pommel, int ownEnd, int givenEnd)
            throws IOException, InterruptedException {
        return run(pommel, "System.exit(" + ownEnd + ");", givenEnd);
    }

    /** A project of two tests, and two that are given. */
    private static Shell.Result run(String pommel, String firstEnds, int givenEnd)
            throws IOException, InterruptedException {
        Path script = PROJECT.resolve(".ci/run");
        Files.createDirectories(script.getParent());
        Files.copy(Path.of(".ci/run"), script, StandardCopyOption.REPLACE_EXISTING,
                StandardCopyOption.COPY_ATTRIBUTES);
        Shell.write(PROJECT.resolve("src/main/java/Pommel.java"), pommel);
        test(PROJECT.resolve("src/test/java"), "FirstTest", firstEnds);
        test(PROJECT.resolve("src/test/java"), "LastTest", "");
        test(SHARED, "Given", "System.exit(" + givenEnd + ");");
        test(SHARED, "Other", "");
        return again();
    }

    private static void test(Path folder, String name, String ends) throws IOException {
        Shell.write(folder.resolve(name + ".java"), "public class " + name
                + " { public static void main(String[] args) { new Pommel(); System.out.println(\""
                + name + " ran\"); " + ends + " } }");
    }

    private static Shell.Result again() throws IOException, InterruptedException {
        return Shell.run(PROJECT, ".ci/run");
    }

    private static boolean isProgram(Path file) {
        try {
            return file.toString().endsWith(".java")
                    && Files.readString(file).contains("static void main(");
        } catch (IOException e) {
            return false;
        }
    }
}
