import java.io.IOException;
import java.nio.charset.StandardCharsets;
import java.nio.file.Files;
import java.nio.file.Path;
import java.util.Arrays;

/**
 * Tests of boundary cases, each under the sentence of the document that names the case: the words must stand in the
 * document's section, so that a test does not outlive its sentence.
 */
final class Edges {
    private static final Path DOCUMENT = Path.of("..", "shared", "DOC.md");

    final Check check = new Check();
    private final String document;
    private int sentences;

    Edges() {
        document = read();
    }

    private static String read() {
        try {
            return oneLine(new String(Files.readAllBytes(DOCUMENT), StandardCharsets.UTF_8));
        } catch (IOException e) {
            System.out.println("the document is not here: " + e);
            return "";
        }
    }

    private static String oneLine(String text) {
        return text.replaceAll("\\s+", " ");
    }

    /** From its heading to the next one. */
    private String section(String heading) {
        int from = document.indexOf(" ## " + heading);
        if (from < 0) return "";
        int to = document.indexOf(" ## ", from + 1);
        return to < 0 ? document.substring(from) : document.substring(from, to);
    }

    void sentence(String heading, String words) {
        sentences++;
        check.promise(heading + " '" + words + "'");
        check.holds("stands in the document", section(heading).contains(oneLine(words)));
    }

    void terms(String words) {
        sentence("Terms", words);
    }

    void promise(int n, String words) {
        sentence("Promise " + n + ":", words);
    }

    Driver driver() {
        return new Driver(check);
    }

    Driver driver(String text) {
        return new Driver(check, text);
    }

    /** The number k of a call on a new square goes from least to most: these are answered, what is beyond is BAD. */
    void ends(String text, int k, int least, int most, String name, int... a) {
        for (int v : new int[] {least, most}) {
            int[] b = with(a, k, v);
            long answer = driver(text).call(name, b);
            check.holds(name + Arrays.toString(b) + " answered " + answer, answer > Driver.BAD);
        }
        for (int v : new int[] {least - 1, most + 1, Driver.MIN, Driver.MAX}) {
            driver(text).changesNothing(Driver.BAD, name, with(a, k, v));
        }
    }

    /** The number k of a call is that of a paper: 0 to 5 at most, and no more than there are. */
    void endsOfPapers(int k, String name, int... a) {
        StringBuilder text = new StringBuilder("c3,1;");
        for (int papers = 1; papers <= 6; papers++) {
            text.append("s").append(papers).append(",0,4;");
            ends(text.toString(), k, 0, papers - 1, name, a);
        }
        for (int paper = -1; paper <= 6; paper++) driver().changesNothing(Driver.BAD, name, with(a, k, paper));
    }

    private static int[] with(int[] a, int k, int v) {
        int[] b = a.clone();
        b[k] = v;
        return b;
    }

    void end() {
        System.out.print(sentences + " sentences: ");
        check.end();
    }
}
