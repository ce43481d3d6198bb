import java.io.IOException;
import java.nio.file.Files;
import java.nio.file.Path;
import java.util.List;
import java.util.regex.Matcher;
import java.util.regex.Pattern;
import java.util.stream.Stream;

/**
 * Every word of the document, from its first line to its last, stands in a sentence that some test quotes, ahead of what it
 * asks. The face is no sentence: LanguageTest and FaceTest read it.
 */
public final class SentencesTest {
    private static final Pattern QUOTE = Pattern.compile("Check\\.(?:sentence\\(|promise\\(([0-9]+), )\"((?:[^\"\\\\]|\\\\.)*)\"\\)");

    public static void main(String[] args) throws IOException {
        String document = Check.document();
        boolean[] quoted = new boolean[document.length()];
        int quotes = 0;
        for (Path test : tests()) {
            Matcher m = QUOTE.matcher(Files.readString(test));
            while (m.find()) {
                mark(document, quoted, m.group(1), m.group(2).replace("\\\"", "\""));
                quotes++;
            }
        }
        lines(document, quoted);
        System.out.println("SentencesTest: " + quotes + " sentences are quoted");
        Check.end("SentencesTest");
    }

    private static List<Path> tests() throws IOException {
        try (Stream<Path> all = Files.list(Path.of("src/test/java"))) {
            return all.filter(p -> p.toString().endsWith(".java")).sorted().toList();
        }
    }

    /** Words of a promise count under its heading alone, others ahead of all promises and behind them. */
    private static void mark(String document, boolean[] quoted, String promise, String words) {
        if (promise != null) {
            markIn(document, quoted, Check.section(document, Integer.parseInt(promise)), words);
            return;
        }
        markIn(document, quoted, document.substring(0, document.indexOf("## Promise 1:")), words);
        markIn(document, quoted, document.substring(document.indexOf("## Not promised")), words);
    }

    private static void markIn(String document, boolean[] quoted, String part, String words) {
        int begin = document.indexOf(part);
        int at = part.indexOf(words);
        if (at >= 0) {
            java.util.Arrays.fill(quoted, begin + at, begin + at + words.length(), true);
        }
    }

    private static void lines(String document, boolean[] quoted) {
        Check.due("the document begins with its name", document.startsWith("# WoolThreads\n") ? 1 : 0, 1);
        Check.due("the document ends with what is not promised", document.indexOf("\n## ", document.indexOf("## Not promised")), -1);
        int at = 0;
        boolean inFace = false;
        for (String line : document.split("\n")) {
            if (line.startsWith("```")) {
                inFace = line.equals("```java");
            } else if (!line.startsWith("#") && !inFace) {
                Check.dueText("what no test quotes of: " + line, left(line, at, quoted), "");
            }
            at += line.length() + 1;
        }
    }

    /** Letters and digits of a line that no test quotes; a promise's signature and a part's number are no sentences. */
    private static String left(String line, int at, boolean[] quoted) {
        int begin = line.startsWith("`") ? line.indexOf("`: ") + 3 : line.startsWith("==== ") ? 7 : 0;
        StringBuilder left = new StringBuilder();
        for (int i = begin; i < line.length(); i++) {
            if (Character.isLetterOrDigit(line.charAt(i)) && !quoted[at + i]) {
                left.append(line.charAt(i));
            }
        }
        return left.toString();
    }
}
