import java.io.IOException;
import java.nio.file.DirectoryStream;
import java.nio.file.Files;
import java.nio.file.Path;
import java.util.ArrayList;
import java.util.List;
import java.util.regex.Matcher;
import java.util.regex.Pattern;

/**
 * That the tests name every sentence of the document's Terms and promises, each as the document has it: what is left
 * of a promise or of a part of the Terms, when the sentences that are named are taken away, has no words.
 */
public final class SentencesTest {
    private static final int PROMISES = 41;
    private static final int LAST_TERM = 4;

    private SentencesTest() {
    }

    public static void main(String[] args) throws IOException {
        String document = Files.readString(Path.of("../shared/DOC.md"));
        String tests = testSources();
        for (int promise = 1; promise <= PROMISES; promise++) {
            covered("promise " + promise, promiseText(document, promise), named(tests, "sentence", promise));
        }
        for (int term = 0; term <= LAST_TERM; term++) {
            covered("terms " + term, termText(document, term), named(tests, "term", term));
        }
        Answers.finish();
    }

    private static String testSources() throws IOException {
        StringBuilder all = new StringBuilder();
        try (DirectoryStream<Path> files = Files.newDirectoryStream(Path.of("src/test/java"), "*Test.java")) {
            for (Path file : files) {
                all.append(Files.readString(file));
            }
        }
        // Long sentences are joined from several texts there.
        return all.toString().replaceAll("\"\\s*\\+\\s*\"", "");
    }

    private static List<String> named(String tests, String by, int number) {
        List<String> found = new ArrayList<>();
        Matcher matcher = Pattern.compile("Answers\\." + by + "\\(" + number + ", \"([^\"]*)\"\\);").matcher(tests);
        while (matcher.find()) {
            found.add(matcher.group(1));
        }
        return found;
    }

    /** What a promise says, behind its heading and its signature. */
    private static String promiseText(String document, int promise) {
        Matcher matcher = Pattern.compile("(?s)\n## Promise " + promise + ": [^\n]*\n\n`[^`]*`: (.*?)\n\n##").matcher(document);
        return matcher.find() ? matcher.group(1) : "";
    }

    /** A part of the Terms; 0 is what stands ahead of the first. */
    private static String termText(String document, int term) {
        String from = term == 0 ? "\n## Terms\n" : "\n" + term + ". ";
        String to = term == LAST_TERM ? "\n\nAhead of the calls" : "\n" + (term + 1) + ". ";
        int start = document.indexOf(from, document.indexOf("\n## Terms\n"));
        int end = document.indexOf(to, start + 1);
        return start < 0 || end < 0 ? "" : document.substring(start + from.length(), end).replace("```text", "");
    }

    private static void covered(String part, String text, List<String> sentences) {
        is(part + " is found", !text.isEmpty());
        is(part + " has tests", !sentences.isEmpty());
        List<String> longestFirst = new ArrayList<>(sentences);
        longestFirst.sort((a, b) -> b.length() - a.length());
        String left = text;
        for (String sentence : longestFirst) {
            is(part + " says: " + sentence, text.contains(sentence));
            left = left.replace(sentence, "");
        }
        is(part + " has no words without a test: " + left.strip(), !Pattern.compile("\\w").matcher(left).find());
    }

    private static void is(String what, boolean holds) {
        Answers.due(what, holds ? 1 : 0, 1);
    }
}
