import java.io.IOException;
import java.nio.file.Files;
import java.nio.file.Path;
import java.util.ArrayList;
import java.util.Arrays;
import java.util.LinkedHashMap;
import java.util.List;
import java.util.Map;

/**
 * Runs tests that each name a heading of the document and words that stand below it, and compares
 * the words with the document, so that no test speaks of a sentence that is not there and no sentence
 * is left without a test.
 */
final class Sentences {
    private static final Path DOCUMENT = Path.of("../shared/DOC.md");

    final Check check = new Check();
    private final Map<String, List<String>> tested = new LinkedHashMap<>();

    void test(String heading, String words, Runnable cases) {
        tested.computeIfAbsent(heading, any -> new ArrayList<>()).add(words);
        check.about(heading + ", \"" + words + "\": ");
        int before = check.answers();
        try {
            cases.run();
        } catch (RuntimeException thrown) {
            check.same("a call that is allowed", "throws." + thrown.getClass().getSimpleName(), "no exception");
        }
        check.same("the test looks at something", check.answers() > before, true);
        check.about("");
    }

    /** Every test's words stand in the document; every word of what is promised is in some test. */
    void compareWithDocument() throws IOException {
        if (!Files.isReadable(DOCUMENT)) {
            System.out.println(DOCUMENT + " is not here: the words of the tests are not compared with it");
            return;
        }
        Map<String, String> texts = textsOf(Files.readString(DOCUMENT));
        for (String heading : tested.keySet()) {
            check.same("the document has " + heading, texts.containsKey(heading), true);
        }
        for (Map.Entry<String, String> part : texts.entrySet()) {
            compare(part.getKey(), part.getValue(), tested.getOrDefault(part.getKey(), List.of()));
        }
    }

    private void compare(String heading, String text, List<String> quotes) {
        StringBuilder left = new StringBuilder(text);
        for (String quote : quotes) {
            int start = text.indexOf(quote);
            check.same(heading + " says: " + quote, start >= 0, true);
            for (int i = Math.max(start, 0); start >= 0 && i < start + quote.length(); i++) {
                left.setCharAt(i, ' ');
            }
        }
        if (heading.equals("What it is") || heading.equals("Terms") || heading.startsWith("Promise ")) {
            check.same(heading + ": words without a test", left.toString().replaceAll("\\W+", " ").trim(), "");
        }
    }

    /** What stands below each heading, on one line, without the signature that a promise begins with. */
    private static Map<String, String> textsOf(String document) {
        Map<String, String> texts = new LinkedHashMap<>();
        for (String part : document.split("(?m)^## ")) {
            String[] lines = part.split("\n");
            String text = String.join(" ", Arrays.asList(lines).subList(1, lines.length));
            texts.put(lines[0].trim(), text.replaceAll("\\s+", " ").replaceFirst("^ ?`[^`]*`: ", ""));
        }
        return texts;
    }
}
