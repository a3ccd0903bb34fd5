import java.io.IOException;
import java.nio.charset.StandardCharsets;
import java.nio.file.Files;
import java.nio.file.Path;
import java.util.LinkedHashMap;
import java.util.Map;
import java.util.function.Consumer;

/**
 * Tests by the document's own words. Each case quotes the sentence that it holds the class to. At the end the quotes
 * must make up the document's sections, so that no sentence goes without a case.
 */
final class Sentences {
    private static final Path DOCUMENT = Path.of("../shared/DOC.md");

    private final Map<String, String> sections = new LinkedHashMap<>();
    private final Map<String, String> unquoted = new LinkedHashMap<>();
    private String heading = "";
    private int cases = 0;
    private int checked = 0;
    private int wrong = 0;

    Sentences() throws IOException {
        String document = Files.readString(DOCUMENT, StandardCharsets.UTF_8);
        for (String part : document.split("(?m)^## ")) {
            int end = part.indexOf('\n');
            String text = plainText(part.substring(end + 1));
            sections.put(part.substring(0, end).strip(), text);
            unquoted.put(part.substring(0, end).strip(), text);
        }
    }

    /** Leaves out what FaceTest and ExamplesTest hold the class to: signatures and examples. */
    private static String plainText(String section) {
        return section.replaceAll("(?s)```.*?```", " ")
            .replaceAll("(?m)^`(long )?\\w+\\(.*\\)`$", " ")
            .replaceAll("(?m)^---- .*$", " ")
            .replaceAll("(?m)^(Examples:|[0-9]\\. ).*$", " ")
            .replaceAll("\\s+", " ");
    }

    void section(String name) {
        heading = name;
        if (!sections.containsKey(name)) {
            report("the document has no section '" + name + "'");
        }
    }

    /** A case of its own for a sentence of the section. */
    void holds(String quote, Consumer<Check> test) {
        quoted(quote);
        Check check = new Check(heading + ", '" + quote + "'");
        test.accept(check);
        cases++;
        checked += check.checkedCount();
        wrong += check.wrongCount();
        if (check.checkedCount() == 0) {
            report("nothing is checked for '" + quote + "'");
        }
    }

    /** A sentence that no call can break: it only names things, or another section's sentence says the same. */
    void onlyNames(String quote) {
        quoted(quote);
    }

    private void quoted(String quote) {
        if (!sections.getOrDefault(heading, "").contains(quote)) {
            report("the document does not say '" + quote + "'");
        }
        unquoted.computeIfPresent(heading, (name, text) -> text.replace(quote, " "));
    }

    private void report(String fault) {
        wrong++;
        System.out.println(heading + ": " + fault);
    }

    private void reportUnquoted() {
        for (Map.Entry<String, String> section : unquoted.entrySet()) {
            boolean isDue = section.getKey().startsWith("Promise") || section.getKey().equals("Description");
            if (isDue && section.getValue().matches(".*[A-Za-z0-9].*")) {
                heading = section.getKey();
                report("no case quotes '" + section.getValue().strip() + "'");
            }
        }
    }

    void end() {
        reportUnquoted();
        System.out.println("Sentences: " + cases + " cases, " + checked + " checked, " + wrong + " wrong");
        if (wrong != 0 || checked == 0) {
            System.exit(1);
        }
    }
}
