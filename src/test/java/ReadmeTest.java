import java.io.IOException;
import java.nio.charset.StandardCharsets;
import java.nio.file.Files;
import java.nio.file.Path;
import java.util.Arrays;
import java.util.Set;
import java.util.TreeSet;
import java.util.regex.Matcher;
import java.util.regex.Pattern;

/** That README.md's examples answer what they say, one behind the other, and that no call of the face is left out. */
public final class ReadmeTest {
    private static final Path README = Path.of("README.md");
    private static final Pattern BLOCK = Pattern.compile("(?s)```java\n(.*?)```");
    private static final Pattern MADE = Pattern.compile("NameNoon town = new NameNoon\\(\\);");
    private static final Pattern TOLD = Pattern.compile("for \\(char c : \"([^\"]*)\"\\.toCharArray\\(\\)\\) town\\.feed\\(c\\);");
    private static final Pattern CALLED = Pattern.compile("town\\.(\\w+)\\(([-0-9, ]*)\\); +// (-?\\d+)(?:: .*)?");
    private static final Check check = new Check();

    private ReadmeTest() {
    }

    private static int[] numbers(String list) {
        if (list.isEmpty()) return new int[0];
        return Arrays.stream(list.split(", ")).mapToInt(Integer::parseInt).toArray();
    }

    private static void example(Driver town, String line, Set<String> shown) {
        Matcher told = TOLD.matcher(line);
        Matcher called = CALLED.matcher(line);
        if (told.matches()) {
            town.feed(told.group(1));
            shown.add("feed");
        } else if (called.matches()) {
            check.due(line, town.call(called.group(1), numbers(called.group(2))), Long.parseLong(called.group(3)));
            shown.add(called.group(1));
        } else {
            check.holds("not the form of an example: " + line, MADE.matcher(line).matches());
        }
    }

    public static void main(String[] args) throws IOException {
        check.promise("README.md");
        String readme = new String(Files.readAllBytes(README), StandardCharsets.UTF_8);
        Driver town = new Driver(check);
        Set<String> shown = new TreeSet<>();
        Matcher blocks = BLOCK.matcher(readme);
        while (blocks.find()) {
            for (String line : blocks.group(1).split("\n")) example(town, line, shown);
        }
        check.same("calls that are shown", shown.toString(), new TreeSet<>(Arrays.asList(Calls.NAMES)).toString());
        check.holds("how the tests are run", readme.contains(".ci/run"));
        check.end();
    }
}
