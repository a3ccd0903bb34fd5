import java.io.ByteArrayOutputStream;
import java.io.IOException;
import java.io.PrintStream;
import java.nio.charset.StandardCharsets;
import java.nio.file.Files;
import java.nio.file.Path;
import java.util.ArrayList;
import java.util.List;
import java.util.regex.Matcher;
import java.util.regex.Pattern;

/** README.md agrees with the document, and its example is a program that prints what README.md says. */
public final class ReadmeTest {
    private static final Check CHECK = new Check("ReadmeTest");
    private static final Pattern CODE = Pattern.compile("\\b[A-Z]+(_[A-Z]+)+\\b|\\bFULL\\b");

    private final String readme = read("README.md");
    private final String document = read("../shared/DOC.md");

    private ReadmeTest() throws IOException {
    }

    public static void main(String[] args) throws IOException {
        ReadmeTest test = new ReadmeTest();
        test.example();
        test.calls();
        test.constants();
        test.numbers();
        test.tests();
        CHECK.end();
    }

    private static String read(String path) throws IOException {
        return Files.readString(Path.of(path), StandardCharsets.UTF_8);
    }

    private static String firstMatch(String pattern, String text) {
        Matcher matcher = Pattern.compile(pattern).matcher(text);
        return matcher.find() ? matcher.group(1) : "";
    }

    private static List<String> allMatches(Pattern pattern, String text) {
        List<String> found = new ArrayList<>();
        Matcher matcher = pattern.matcher(text);
        while (matcher.find()) {
            found.add(matcher.group());
        }
        return found;
    }

    private void example() throws IOException {
        CHECK.dueText("the example's program", firstMatch("(?s)```java\n(.*?)```", readme),
            read("src/test/java/LoadingExample.java"));
        PrintStream console = System.out;
        ByteArrayOutputStream printed = new ByteArrayOutputStream();
        System.setOut(new PrintStream(printed, true, StandardCharsets.UTF_8));
        LoadingExample.main(new String[0]);
        System.setOut(console);
        CHECK.dueText("what the example prints", firstMatch("(?s)```text\n(.*?)```", readme),
            printed.toString(StandardCharsets.UTF_8).replace(System.lineSeparator(), "\n"));
    }

    /** A row for each call, in the document's order, with its arguments' ranges and its codes. */
    private void calls() {
        List<String> due = new ArrayList<>();
        for (String promise : document.split("(?m)^## ")) {
            String signature = firstMatch("(?m)^`long (\\w+\\(.*\\))`$", promise);
            if (!signature.isEmpty()) {
                String call = signature.replace("int ", "");
                due.add(call);
                callRow(call, promise);
            }
        }
        CHECK.due("the number of calls", due.size(), 28);
        List<String> told = new ArrayList<>();
        for (String row : allMatches(Pattern.compile("(?m)^\\| `\\w+\\(.*"), readme)) {
            told.add(firstMatch("`(.*?)`", row));
        }
        CHECK.dueText("the calls", told.toString(), due.toString());
    }

    private void callRow(String call, String promise) {
        String row = firstMatch("(?m)^\\| (`" + Pattern.quote(call) + "` \\|.*)$", readme);
        String[] cells = row.split("\\|", -1);
        CHECK.due("the cells of " + call, cells.length, 5);
        if (cells.length == 5) {
            Matcher range = Pattern.compile("(?m)^- (`\\w+`): .*?(-?[0-9]+ to [0-9]+)").matcher(promise);
            List<String> due = new ArrayList<>();
            while (range.find()) {
                due.add(range.group(1) + " " + range.group(2));
            }
            Pattern told = Pattern.compile("`\\w+` -?[0-9]+ to [0-9]+");
            CHECK.dueText("the ranges of " + call, allMatches(told, cells[1]).toString(), due.toString());
            CHECK.dueText("the codes of " + call, allMatches(CODE, cells[3]).toString(),
                allMatches(CODE, promise).toString());
        }
    }

    private void constants() {
        Matcher constant = Pattern.compile("(?m)^- `([A-Z_]+) = (-[0-9]+)L`: (.*)$").matcher(document);
        int count = 0;
        while (constant.find()) {
            String row = "| `" + constant.group(1) + "` | " + constant.group(2) + " | " + constant.group(3) + " |\n";
            CHECK.due("README.md tells " + row.strip(), readme.contains(row) ? 1 : 0, 1);
            count++;
        }
        CHECK.due("the number of constants", count, 7);
    }

    /** What the document says of numbers that stand in no signature. */
    private void numbers() {
        both("up to 10 rows", "up to 10 rows");
        both("already holds 40 characters", "up to 40 characters");
        both("at most 512 calls", "512 calls");
        both("length 180000", "length 180000");
        both("error margin 0", "the margin 0");
        both("all readings and deductions are 0 and the density is 1025", "are all 0 and whose density is 1025");
        both("30000 for the draft, 9999999 for the displacement, 20000 for TPC, 100000 for LCF",
            "0 to 30000, 0 to 9999999, 0 to 20000, -100000 to 100000");
        both("200000 for MTC", "0 to 200000");
        both("numbered 0 to 3", "numbered 0 to 3");
        String marks = "1 forward starboard, 2 midship port, 3 midship starboard, 4 aft port, 5 aft starboard";
        both("mark 0 is forward port, " + marks, "0 forward port, " + marks);
        String kinds = "0 ballast, 1 fuel, 2 fresh water, 3 constant";
        both(kinds, kinds);
        String order = "All error codes are less than every other result but a digest";
        both(order, order);
    }

    private void both(String inDocument, String inReadme) {
        CHECK.due("DOC.md says '" + inDocument + "'", flat(document).contains(inDocument) ? 1 : 0, 1);
        CHECK.due("README.md says '" + inReadme + "'", flat(readme).contains(inReadme) ? 1 : 0, 1);
    }

    private static String flat(String text) {
        return text.replaceAll("\\s+", " ");
    }

    /** README.md names just the tests that there are. */
    private void tests() throws IOException {
        List<String> due = new ArrayList<>();
        try (var files = Files.list(Path.of("src/test/java"))) {
            files.map(file -> file.getFileName().toString()).filter(name -> name.endsWith("Test.java")).sorted()
                .forEach(name -> due.add(name.replace(".java", "")));
        }
        List<String> told = new ArrayList<>();
        for (String row : allMatches(Pattern.compile("(?m)^\\| `\\w+Test` \\|"), readme)) {
            told.add(firstMatch("`(\\w+)`", row));
        }
        told.sort(null);
        CHECK.dueText("the tests", told.toString(), due.toString());
    }
}
