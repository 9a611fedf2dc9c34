import java.io.IOException;
import java.nio.file.Files;
import java.nio.file.Path;
import java.util.ArrayList;
import java.util.Arrays;
import java.util.List;
import java.util.regex.Matcher;
import java.util.regex.Pattern;

/** What README.md says of the use of the class and of its tests is so. */
final class ReadmeTest {
    private static final Check C = Check.of("readme");
    private static final Path BUILD = Path.of("build/readme").toAbsolutePath();
    private static final Pattern CALL = Pattern.compile("( *)(p\\.(\\w+)\\(.*\\));(?: *// (.*))?");
    private static final Pattern ANSWER = Pattern.compile("(-?\\d+(?:\\.\\d+)?|true|false)(?:: .*)?");

    public static void main(String[] args) throws IOException, InterruptedException {
        String readme = Files.readString(Path.of("README.md"));
        Shell.delete(BUILD);
        calls(readme);
        commands(readme);
        files(readme);
        Shell.delete(BUILD);
        C.end();
    }

    /** The calls that it shows run as they stand, and answer what stands behind them. */
    private static void calls(String readme) throws IOException, InterruptedException {
        String begin = "```java\n";
        C.same("one text of Java", readme.split(begin, -1).length - 1, 1);
        int from = readme.indexOf(begin) + begin.length();
        List<String> lines = Arrays.asList(
                readme.substring(from, readme.indexOf("```", from)).split("\n"));
        allAreShown(lines);

        int asItStands = runs("Shown", lines);
        C.same("the calls run as they stand", asItStands, 0);
        List<String> asked = new ArrayList<>();
        for (String line : lines) {
            asked.add(withAnswer(line));
        }
        C.same("they answer what stands behind them", runs("Asked", asked), 0);
    }

    /** Each call of the document's face is shown, and what it answers stands behind it. */
    private static void allAreShown(List<String> lines) {
        List<String> shown = new ArrayList<>();
        for (String line : lines) {
            Matcher call = CALL.matcher(line);
            if (call.matches()) {
                shown.add(call.group(3));
                boolean answers = call.group(4) != null && ANSWER.matcher(call.group(4)).matches();
                C.yes("its answer stands behind it: " + line.trim(),
                        answers != call.group(3).equals("start"));
            }
        }
        int methods = 0;
        for (String line : Document.face()) {
            Matcher method = Pattern.compile("public \\w+ (\\w+)\\(.*").matcher(line);
            if (method.matches()) {
                methods++;
                C.yes(method.group(1) + " is shown", shown.contains(method.group(1)));
            }
        }
        C.same("methods of the face", methods, 21);
    }

    private static String withAnswer(String line) {
        Matcher call = CALL.matcher(line);
        if (!call.matches() || call.group(4) == null) {
            return line;
        }
        Matcher answer = ANSWER.matcher(call.group(4));
        if (!answer.matches()) {
            return line;
        }
        return call.group(1) + "ask(\"" + call.group(2) + "\", " + call.group(2) + ", \""
                + answer.group(1) + "\");";
    }

    /** Runs these lines as a program; answers how it ended. */
    private static int runs(String name, List<String> lines)
            throws IOException, InterruptedException {
        List<String> program = new ArrayList<>();
        program.add("final class " + name + " {");
        program.add("public static void main(String[] args) {");
        program.addAll(lines);
        program.add("}");
        program.add("static void ask(String call, Object got, String due) {");
        program.add("if (!String.valueOf(got).equals(due)) {");
        program.add("System.out.println(call + \": \" + got + \", README.md says \" + due);");
        program.add("System.exit(1);");
        program.add("}");
        program.add("}");
        program.add("}");
        Path source = BUILD.resolve(name + ".java");
        Shell.write(source, String.join("\n", program) + "\n");
        Shell.Result compiled = Shell.run(Path.of("."), "javac", "-encoding", "UTF-8", "-d",
                BUILD.toString(), "src/main/java/Pommel.java", source.toString());
        Shell.Result result = compiled.code() != 0 ? compiled
                : Shell.run(Path.of("."), "java", "-cp", BUILD.toString(), name);
        System.out.print(result.printed());
        return result.code();
    }

    /** The commands that it names are .ci/run, see CiRunTest, and those for one test alone. */
    private static void commands(String readme) throws IOException, InterruptedException {
        List<String> commands = new ArrayList<>();
        String tests = readme.substring(readme.indexOf("\n## Tests"));
        for (String line : tests.split("\n")) {
            if (line.startsWith("    ")) {
                commands.add(line.trim());
            }
        }
        C.yes("commands: " + commands, commands.size() == 4);
        C.yes("the first one is .ci/run", commands.get(0).equals(".ci/run"));
        C.yes(".ci/run can be run", Files.isExecutable(Path.of(".ci/run")));
        String alone = String.join("\n", commands.subList(1, commands.size()));
        Shell.Result result = Shell.run(Path.of("."), "sh", "-e", "-c", alone);
        C.same("one test alone", result.code(), 0);
        C.yes("it is that test: " + result.printed(),
                result.printed().matches("Promise 5: \\d+ answers, 0 not as due\n"));
    }

    /** Each test is named, alone or as one of several, and each file that is named is there. */
    private static void files(String readme) throws IOException {
        Matcher named = Pattern.compile("`([\\w./]+\\.(?:java|md))`").matcher(readme);
        while (named.find()) {
            String file = named.group(1);
            String where = file.contains("/") ? file : "src/test/java/" + file;
            C.yes(file + " is there", Files.exists(Path.of(where)));
        }
        for (String test : CiRunTest.tests()) {
            C.yes(test + " is named",
                    readme.contains(test + ".java") || test.matches("(Promise\\d|Terms[1-6]).*Test"));
        }
    }
}
