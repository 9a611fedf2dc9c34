import java.io.IOException;
import java.io.UncheckedIOException;
import java.nio.file.Files;
import java.nio.file.Path;
import java.util.ArrayList;
import java.util.Arrays;
import java.util.List;

/** The words of a part of the document, of which a test names one sentence after the other. */
final class Document {
    private static final String ALL = read();

    private final String words;
    private final boolean[] named;

    private Document(String text) {
        // The signs of the list, of code and of the lines are no words.
        words = text.replaceAll("(?m)^\\s*- ", "").replace("`", "").replaceAll("\\s+", " ").trim();
        named = new boolean[words.length()];
    }

    /** What a promise says behind the face of its call. */
    static Document ofPromise(int number) {
        String heading = "\n## Promise " + number + ": ";
        if (!ALL.contains(heading)) {
            throw new IllegalArgumentException("there is no promise " + number);
        }
        int from = ALL.indexOf('\n', ALL.indexOf(heading) + heading.length());
        String text = ALL.substring(from, ALL.indexOf("\n## ", from)).trim();
        return new Document(text.substring(text.indexOf("`:") + 2).trim());
    }

    /** The lines that begin like this, each of which is a paragraph. */
    static Document ofLines(String... beginnings) {
        StringBuilder text = new StringBuilder();
        for (String beginning : beginnings) {
            List<String> found = Arrays.stream(ALL.split("\n")).map(String::trim)
                    .filter(line -> line.startsWith(beginning)).toList();
            if (found.size() != 1) {
                throw new IllegalArgumentException(found.size() + " lines are: " + beginning);
            }
            text.append(found.get(0)).append('\n');
        }
        return new Document(text.toString());
    }

    /** The lines of the terms that ask for something, and that on how many calls there are. */
    static List<String> lines() {
        List<String> lines = new ArrayList<>();
        String terms = ALL.substring(ALL.indexOf("\n## Terms"), ALL.indexOf("\n## Promise 1:"));
        for (String line : terms.split("\n")) {
            String text = line.trim();
            boolean asks = !text.isEmpty() && !text.startsWith("#") && !text.startsWith("```")
                    && !text.startsWith("Its calls: ") && !text.startsWith("Ahead of the calls ");
            if (asks) {
                lines.add(text);
            }
        }
        String calls = "An object is used for at most 512 calls";
        if (ALL.contains("\n" + calls)) {
            lines.add(calls);
        }
        return lines;
    }

    /** The lines of the public face. */
    static List<String> face() {
        String begin = "```java\n";
        int from = ALL.indexOf(begin) + begin.length();
        return Arrays.stream(ALL.substring(from, ALL.indexOf("```", from)).split("\n"))
                .map(String::trim).toList();
    }

    /** How many promises there are. */
    static int promises() {
        return ALL.split("\n## Promise ").length - 1;
    }

    /** Names a sentence; false if the part does not say it. */
    boolean name(String sentence) {
        boolean found = false;
        for (int at = words.indexOf(sentence); at >= 0; at = words.indexOf(sentence, at + 1)) {
            Arrays.fill(named, at, at + sentence.length(), true);
            found = true;
        }
        return found;
    }

    /** What has not been named. */
    List<String> unnamed() {
        List<String> pieces = new ArrayList<>();
        StringBuilder piece = new StringBuilder();
        for (int i = 0; i <= words.length(); i++) {
            if (i < words.length() && !named[i]) {
                piece.append(words.charAt(i));
                continue;
            }
            if (piece.chars().anyMatch(Character::isLetterOrDigit)) {
                pieces.add(piece.toString().trim());
            }
            piece.setLength(0);
        }
        return pieces;
    }

    private static String read() {
        try {
            return Files.readString(Path.of("../shared/DOC.md"));
        } catch (IOException e) {
            throw new UncheckedIOException(e);
        }
    }
}
