import java.nio.charset.StandardCharsets;
import java.nio.file.DirectoryStream;
import java.nio.file.Files;
import java.nio.file.Path;
import java.util.regex.Matcher;
import java.util.regex.Pattern;

/** README.md says how to use the class and how to run its tests: its example gives what stands there, and it names all. */
final class ReadmeTest {
    private static final Check check = new Check("ReadmeTest");
    private static final Pattern CALL = Pattern.compile("x\\.(\\w+)\\((.*)\\); *// (true|false|-?\\d+)(, status (\\d+))?(:.*)?");
    private static final Pattern TEXT = Pattern.compile("feed\\(x, \"([^\"]*)\"\\)");

    public static void main(String[] args) throws Exception {
        Path root = Path.of(args.length > 0 ? args[0] : ".");
        String page = Files.readString(root.resolve("README.md"), StandardCharsets.UTF_8);
        example(page);
        helper(page, root);
        namesAllCalls(page);
        namesAllTests(page, root);
        check.finish();
    }

    private static void example(String page) {
        String begin = "LetterNames x = new LetterNames();\n";
        int from = page.indexOf(begin);
        check.due("there is an example", from >= 0, true);
        LetterNames x = new LetterNames();
        int asked = 0;
        for (String line : page.substring(from + begin.length(), page.indexOf("```", from)).split("\n")) {
            if (line.isEmpty() || line.startsWith("//")) {
                continue;
            }
            Matcher m = CALL.matcher(line);
            check.due("a call with its answer: " + line, m.matches(), true);
            if (m.matches()) {
                ask(x, m, line);
                asked++;
            }
        }
        check.due("the example asks much", asked > 30, true);
    }

    private static void ask(LetterNames x, Matcher m, String line) {
        String with = m.group(2);
        Matcher text = TEXT.matcher(with);
        if (text.matches()) {
            with = String.valueOf(Check.feed(x, text.group(1)));
        }
        String due = m.group(3);
        check.due(line, Run.answer(x, m.group(1) + "(" + with + ")"), due.equals("true") ? 1L : due.equals("false") ? 0L : Long.parseLong(due));
        if (!m.group(1).matches("fault|top|bottom|feed|status")) {
            check.due("the status of " + line, x.status(), m.group(5) == null ? 0 : Integer.parseInt(m.group(5)));
        }
    }

    /** The page's helper stands in Check, so that every test of a text has used it. */
    private static void helper(String page, Path root) throws Exception {
        String begin = "static int feed(LetterNames x, String text) {";
        int from = page.indexOf(begin);
        check.due("the page has its helper", from >= 0, true);
        String onPage = page.substring(from, page.indexOf("```", from)).replaceAll("\\s+", " ");
        String inCheck = Files.readString(root.resolve("src/test/java/Check.java"), StandardCharsets.UTF_8).replaceAll("\\s+", " ");
        check.due("it is the one that the tests use", inCheck.contains(onPage), true);
    }

    private static void namesAllCalls(String page) {
        for (java.lang.reflect.Method m : LetterNames.class.getDeclaredMethods()) {
            if (java.lang.reflect.Modifier.isPublic(m.getModifiers())) {
                check.due("the page names " + m.getName(), page.contains("`" + m.getName() + "`"), true);
            }
        }
    }

    private static void namesAllTests(String page, Path root) throws Exception {
        check.due("how to run them", page.contains("bash .ci/run"), true);
        try (DirectoryStream<Path> files = Files.newDirectoryStream(root.resolve("src/test/java"), "*Test.java")) {
            for (Path file : files) {
                String name = file.getFileName().toString().replace(".java", "");
                check.due("the page names " + name, page.contains("`" + name + "`"), true);
            }
        }
    }
}
