import java.io.IOException;
import java.nio.charset.StandardCharsets;
import java.nio.file.Files;
import java.nio.file.Path;
import java.util.LinkedHashSet;
import java.util.Set;
import java.util.regex.Matcher;
import java.util.regex.Pattern;

/** The document's sentences, and which of them a test quotes: by this a sentence without a test is found. */
final class Sentences {
    static final int TERMS = 0;

    private static final Path DOCUMENT = Path.of("../shared/DOC.md");
    private static final Pattern PROMISE = Pattern.compile("## Promise (\\d+): .*");
    private static final Pattern SIGNATURE = Pattern.compile("^`[^`]*\\)[^`]*`: ");

    private static final Set<String> quoted = new LinkedHashSet<>();

    private Sentences() {
    }

    /** Runs the test of one sentence; promise 0 stands for the terms. */
    static void holds(int promise, String sentence, Checks.Call test) {
        quoted.add(promise + " | " + sentence);
        Checks.within((promise == TERMS ? "terms" : "promise " + promise) + ", '" + sentence + "': ");
        test.run();
        Checks.within("");
    }

    static void compareWithDocument() throws IOException {
        if (!Files.isRegularFile(DOCUMENT)) {
            System.out.println("no " + DOCUMENT + ": its sentences are not compared");
            return;
        }
        Set<String> told = ofDocument();
        for (String sentence : told) {
            Checks.due("a test quotes: " + sentence, quoted.contains(sentence) ? 1 : 0, 1);
        }
        for (String sentence : quoted) {
            Checks.due("the document says: " + sentence, told.contains(sentence) ? 1 : 0, 1);
        }
    }

    private static Set<String> ofDocument() throws IOException {
        Set<String> told = new LinkedHashSet<>();
        int promise = -1;
        for (String line : Files.readAllLines(DOCUMENT, StandardCharsets.UTF_8)) {
            if (line.startsWith("## ")) {
                Matcher m = PROMISE.matcher(line);
                promise = m.matches() ? Integer.parseInt(m.group(1)) : line.equals("## Terms") ? TERMS : -1;
            } else if (promise >= 0 && !line.isBlank() && !line.startsWith("#")) {
                addSentences(told, promise, SIGNATURE.matcher(line.trim()).replaceFirst(""));
            }
        }
        return told;
    }

    private static void addSentences(Set<String> told, int promise, String line) {
        for (String sentence : line.split("(?<=\\.) ")) {
            // a heading of the interface's own, unless it says that nothing is changed
            if (!sentence.startsWith("Ahead of the calls") || sentence.contains("nothing is changed")) {
                told.add(promise + " | " + sentence);
            }
        }
    }
}
