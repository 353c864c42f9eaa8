import java.io.IOException;
import java.nio.charset.StandardCharsets;
import java.nio.file.Files;
import java.nio.file.Path;
import java.util.ArrayList;
import java.util.List;
import java.util.regex.Matcher;
import java.util.regex.Pattern;
import java.util.stream.Collectors;
import java.util.stream.Stream;

/** That every sentence of the Terms and of the promises stands above a test: what is left names no boundary case. */
public final class SentencesTest {
    private static final Path DOCUMENT = Path.of("..", "shared", "DOC.md");
    private static final Path TESTS = Path.of("src", "test", "java");
    private static final Pattern QUOTE = Pattern.compile("edges\\.(terms|promise)\\((?:(\\d+), )?\"([^\"]*)\"");
    private static final List<String> NO_CASE = List.of("STATE (as told), FULL (as told)", "or", "TEXTS",
        "ASKS of PAPERS, by BODIES", "By this it is asked");
    private static final Check check = new Check();

    private SentencesTest() {
    }

    private static String read(Path file) throws IOException {
        return new String(Files.readAllBytes(file), StandardCharsets.UTF_8).replaceAll("\\s+", " ");
    }

    /** The words under which the tests stand, each behind the heading of its section. */
    private static List<String> quotes() throws IOException {
        List<String> quotes = new ArrayList<>();
        List<Path> files;
        try (Stream<Path> all = Files.list(TESTS)) {
            files = all.sorted().collect(Collectors.toList());
        }
        for (Path file : files) {
            Matcher m = QUOTE.matcher(read(file).replaceAll("\" \\+ \"", ""));
            while (m.find()) quotes.add((m.group(1).equals("terms") ? "Terms" : "Promise " + m.group(2) + ":") + "|" + m.group(3));
        }
        return quotes;
    }

    private static void section(String heading, String text, List<String> quotes) {
        check.promise(heading);
        String left = text.substring(heading.length()).replaceAll("Ahead of the calls .* the interface says: ---- asked.", "|")
            .replaceAll("`[a-z]+ \\w+\\([^)]*\\)`:", "|").replaceAll("={8} \\d|```(text)?", "|");
        for (String quote : quotes) {
            if (quote.startsWith(heading + "|")) left = left.replace(quote.substring(heading.length() + 1), "|");
        }
        for (String words : left.split("\\|")) {
            String bare = words.replaceAll("^[ ,;:.()]+|[ ,;:.(]+$", "");
            check.holds("no test stands under '" + bare + "'", bare.isEmpty() || NO_CASE.contains(bare));
        }
    }

    public static void main(String[] args) throws IOException {
        if (!Files.isReadable(DOCUMENT)) {
            System.out.println("the document is not here");
            return;
        }
        List<String> quotes = quotes();
        int sections = 0;
        for (String part : read(DOCUMENT).split(" ## ")) {
            Matcher promise = Pattern.compile("^Promise \\d+:").matcher(part);
            if (promise.find()) {
                String name = part.substring(promise.end()).replaceAll("`.*", "");
                section(promise.group(), promise.group() + part.substring(promise.end() + name.length()), quotes);
                sections++;
            } else if (part.startsWith("Terms")) {
                section("Terms", part, quotes);
                sections++;
            }
        }
        check.due("sections that were gone through", sections, 39);
        check.end();
    }
}
