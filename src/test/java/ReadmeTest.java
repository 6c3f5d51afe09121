import java.io.IOException;
import java.nio.file.Files;
import java.nio.file.Path;
import java.util.List;
import java.util.regex.Matcher;
import java.util.regex.Pattern;
import java.util.stream.Collectors;
import java.util.stream.Stream;

/** What README.md says of calls is so, and it names every call and every test; its argument is the class's file. */
public final class ReadmeTest {
    private static final Check check = new Check();
    private static final Pattern TEXT = Pattern.compile("String text = \"([^\"]*)\";");
    private static final Pattern CALL = Pattern.compile("^x\\.(\\w+)\\(([-0-9, ]*)\\);\\s*// (-?\\d+)\\b", Pattern.MULTILINE);
    private static final Pattern ANY_CALL = Pattern.compile("^x\\.", Pattern.MULTILINE);

    public static void main(String[] args) throws IOException {
        if (args.length > 0) {
            Path root = Path.of(args[0]).toAbsolutePath().getParent().resolve("../../..").normalize();
            String page = Files.readString(root.resolve("README.md"));
            answersAreSo(page);
            callsAreNamed(page);
            testsAreNamed(page, root.resolve("src/test/java"));
        }
        check.end();
    }

    private static void answersAreSo(String page) {
        Matcher text = TEXT.matcher(page);
        check.due("a text is told", text.find() ? 1 : 0, 1);
        Run run = new Run("feeds " + text.group(1));
        int answers = 0;
        Matcher call = CALL.matcher(page);
        while (call.find()) {
            String told = (call.group(1) + " " + call.group(2).replace(",", "")).trim();
            check.due("README: " + told, run.call(told), Long.parseLong(call.group(3)));
            answers++;
        }
        check.due("every call has its answer", answers, ANY_CALL.matcher(page).results().count());
        check.due("there are some", answers > 0 ? 1 : 0, 1);
    }

    private static void callsAreNamed(String page) {
        for (String name : Run.calls().keySet()) {
            check.due("README names " + name, page.contains("`" + name + "`") ? 1 : 0, 1);
        }
    }

    private static void testsAreNamed(String page, Path tests) throws IOException {
        List<String> files;
        try (Stream<Path> all = Files.list(tests)) {
            files = all.map(file -> file.getFileName().toString()).collect(Collectors.toList());
        }
        for (String file : files) {
            String name = file.replace(".java", "");
            check.due("README names " + name, page.contains("`" + name + "`") ? 1 : 0, 1);
        }
    }
}
