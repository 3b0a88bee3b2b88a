import java.io.IOException;
import java.lang.reflect.InvocationTargetException;
import java.lang.reflect.Method;
import java.nio.charset.StandardCharsets;
import java.nio.file.DirectoryStream;
import java.nio.file.Files;
import java.nio.file.Path;
import java.util.Arrays;
import java.util.List;
import java.util.Map;
import java.util.TreeMap;
import java.util.regex.Matcher;
import java.util.regex.Pattern;

/** Whether README.md tells the calls, the texts, the reasons and the tests as they are. */
final class ReadmeTest {
    private static final Path README = Path.of("README.md");
    private static final Path TESTS = Path.of("src/test/java");
    private static final Pattern EXAMPLE = Pattern.compile("(?s)```java\n(.*?)```");
    private static final Pattern NEW = Pattern.compile("AbbeyLedgers x = new AbbeyLedgers\\(\\);");
    private static final Pattern FILL
        = Pattern.compile("for \\(char c : \"(.*)\".toCharArray\\(\\)\\) x.append\\(c\\);");
    private static final Pattern CALL = Pattern.compile("x\\.(\\w+)\\(([^)]*)\\); *// ([^: ]+)(: .+)?");
    private static final Pattern EXCEPTION = Pattern.compile("`(\\w+Exception)`");

    private ReadmeTest() {
    }

    public static void main(String[] args) throws IOException {
        String readme = Files.readString(README, StandardCharsets.UTF_8);
        List<String[]> rows = readme.lines().filter(line -> line.startsWith("| ")).map(ReadmeTest::cells).toList();
        example(readme);
        calls(rows);
        texts(rows);
        reasons(rows);
        tests(rows);
        Check.end("ReadmeTest");
    }

    private static String[] cells(String row) {
        String inner = row.substring(1, row.lastIndexOf('|'));
        return Arrays.stream(inner.split("\\|", -1)).map(String::strip).toArray(String[]::new);
    }

    private static void example(String readme) {
        Matcher block = EXAMPLE.matcher(readme);
        Check.that("there is an example", block.find());
        AbbeyLedgers x = new AbbeyLedgers();
        String[] lines = block.group(1).split("\n");
        Check.that("it begins with a new object", NEW.matcher(lines[0]).matches());
        for (int i = 1; i < lines.length; i++) {
            Matcher fill = FILL.matcher(lines[i]);
            Matcher call = CALL.matcher(lines[i]);
            if (fill.matches()) {
                Samples.fill(x, fill.group(1));
            } else if (call.matches()) {
                String[] numbers = call.group(2).isEmpty() ? new String[0] : call.group(2).split(", ");
                Check.same(lines[i], answer(x, call.group(1), numbers), call.group(3));
            } else {
                Check.that("no such line: " + lines[i], lines[i].isEmpty());
            }
        }
    }

    private static String answer(AbbeyLedgers x, String name, String[] numbers) {
        for (Method method : AbbeyLedgers.class.getMethods()) {
            if (method.getName().equals(name) && method.getParameterCount() == numbers.length) {
                try {
                    return String.valueOf(method.invoke(x, Arrays.stream(numbers).map(Integer::valueOf).toArray()));
                } catch (InvocationTargetException e) {
                    return e.getCause().getClass().getSimpleName();
                } catch (IllegalAccessException e) {
                    return "not to be called";
                }
            }
        }
        return "no such call";
    }

    private static void calls(List<String[]> rows) throws IOException {
        Map<String, String> told = new TreeMap<>();
        for (String[] row : rows) {
            Matcher call = Pattern.compile("`(\\w+\\([\\w, ]*\\))`.*").matcher(row[0]);
            if (call.matches()) {
                told.put(call.group(1), EXCEPTION.matcher(row[2]).results().map(m -> m.group(1)).toList().toString());
            }
        }
        Map<String, String> due = new TreeMap<>();
        for (Call call : Call.allOf(Document.text())) {
            due.put(call.name() + "(" + String.join(", ", call.parameters()) + ")", call.thrown().toString());
        }
        Check.same("the calls, with what they throw,", told.toString(), due.toString());
    }

    /** An object on which all the texts that the table tells are carried out. */
    private static AbbeyLedgers forTexts() {
        AbbeyLedgers x = new AbbeyLedgers();
        x.write(1, 3, 5);
        x.write(0, 4, 9);
        x.write(0, 5, 9);
        return x;
    }

    private static void texts(List<String[]> rows) {
        int found = 0;
        for (String[] row : rows) {
            Matcher call = Pattern.compile("`(\\w+)\\(([\\d, ]+)\\)`").matcher(row[row.length - 1]);
            if (row.length == 3 && call.matches()) {
                AbbeyLedgers x = forTexts();
                AbbeyLedgers y = forTexts();
                Check.same(row[1], Samples.run(x, row[1].replace("`", "")), 1);
                answer(y, call.group(1), call.group(2).split(", "));
                Check.same("what comes of " + row[1], Seen.state(x), Seen.state(y));
                found++;
            }
        }
        Check.same("kinds of commands", found, 5);
    }

    private static void reasons(List<String[]> rows) throws IOException {
        Document document = Document.read();
        int found = 0;
        for (String[] row : rows) {
            if (row[0].matches("[1-8]")) {
                String says = row[0] + ", " + row[1] + (row[2].isEmpty() ? ";" : ": " + row[2]);
                Check.that("the document says: " + says, document.says(Document.TERMS, says));
                found++;
            }
        }
        Check.same("reasons", found, 8);
    }

    private static void tests(List<String[]> rows) throws IOException {
        try (DirectoryStream<Path> files = Files.newDirectoryStream(TESTS, "*Test.java")) {
            for (Path file : files) {
                String name = file.getFileName().toString().replace(".java", "");
                Check.that("it tells of " + name, rows.stream().anyMatch(row -> row[0].equals(name)));
            }
        }
    }
}
