import java.io.IOException;
import java.nio.file.Files;
import java.nio.file.Path;
import java.util.regex.Matcher;
import java.util.regex.Pattern;

/** Those rules of ../shared/LANGUAGE.md that can be seen from the words of the class alone. */
final class LanguageTest {
    private static final Check C = Check.of("language");
    private static final Pattern METHOD = Pattern.compile(
            "^( +)(?:public |private |static |final )*[A-Za-z<>\\[\\]]+ [a-zA-Z]+\\(([^)]*)\\)[^;{}]*\\{$",
            Pattern.MULTILINE);

    public static void main(String[] args) throws IOException {
        String source = Files.readString(Path.of("src/main/java/Pommel.java"));
        String code = source.replaceAll("(?s)/\\*.*?\\*/", "").replaceAll("//[^\n]*", "")
                .replaceAll("\"[^\"\n]*\"", "\"\"");
        words(code);
        library(code);
        fields(code);
        methods(code);
        classes(code);
        C.end();
    }

    private static void words(String code) {
        // Rules 2, 6 and 13: what is written with one of these stands nowhere.
        String[] none = {"->", "::", "\\bfinally\\b", "\\bsynchronized\\b", "\\bassert\\b",
            "\\bpackage\\b", "\\bhashCode\\b", "\\bSystem\\.(?!arraycopy)", "\\bThread\\b",
            "\\bRandom\\b", "Exact\\b", "\\bprotected\\b", "\\bgetMessage\\b", "@"};
        for (String word : none) {
            C.yes("without " + word, !Pattern.compile(word).matcher(code).find());
        }
        // What the machine throws, by its own name or by a class above it, is not caught.
        C.yes("no such catch", !Pattern.compile("catch *\\([^)]*(ArrayIndex|NullPointer|Arithmetic|"
                + "ClassCast|NegativeArray|ArrayStore|RuntimeException|\\bException|Throwable)")
                .matcher(code).find());
        // Rule 6, and the document, which names these.
        Matcher thrown = Pattern.compile("throw [^;]*").matcher(code);
        while (thrown.find()) {
            C.yes(thrown.group(), thrown.group().matches("throw new (IllegalArgumentException|"
                    + "IllegalStateException|IndexOutOfBoundsException)\\((\"\")?\\)"));
        }
    }

    private static void library(String code) {
        Matcher imports = Pattern.compile("(?m)^import .*$").matcher(code);
        while (imports.find()) {
            C.yes(imports.group(), imports.group().matches(
                    "import java\\.util\\.(ArrayList|List|Arrays|Iterator);"));
        }
    }

    private static void fields(String code) {
        // Rule 5: what is static is a constant, a method or a class.
        Matcher statics = Pattern.compile("(?m)^ *(.*\\bstatic\\b.*)$").matcher(code);
        while (statics.find()) {
            String line = statics.group(1);
            C.yes(line, line.matches("private static final \\S+ [A-Z_0-9]+ = .*") || line.contains("(")
                    || line.matches("private static (final |abstract )?(class|enum|interface|record) .*"));
        }
    }

    private static void methods(String code) {
        Matcher method = METHOD.matcher(code);
        int seen = 0;
        while (method.find()) {
            seen++;
            String end = "\n" + method.group(1) + "}";
            String body = code.substring(method.start(), code.indexOf(end, method.start()));
            long lines = body.chars().filter(sign -> sign == '\n').count();
            String head = method.group().trim().split("\n")[0];
            C.yes(head + " has " + lines + " lines", lines <= 60);
            C.yes(head + " has its parameters", method.group(2).split(",").length <= 7);
        }
        C.yes("methods are seen: " + seen, seen > 50);
    }

    private static void classes(String code) {
        Matcher inside = Pattern.compile("(?m)^.*\\b(class|enum|interface|record) [A-Z]\\w* ")
                .matcher(code);
        int seen = 0;
        while (inside.find()) {
            seen++;
            C.yes(inside.group(), inside.group().matches(
                    "public final class Pommel "
                    + "| *private (static )?(final |abstract )?(class|enum|interface|record) \\w+ "));
        }
        C.yes("at most twelve classes: " + seen, seen >= 1 && seen <= 12);
    }
}
