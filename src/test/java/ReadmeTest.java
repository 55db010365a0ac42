import java.io.IOException;
import java.nio.file.DirectoryStream;
import java.nio.file.Files;
import java.nio.file.Path;

/** README.md is true: its example answers what it says there, and it names every test and every call. */
public final class ReadmeTest {
    private static final String[] CALLS = {
        "insert", "clear", "query", "filter", "join", "window", "over", "frame", "order",
        "run", "cell", "isNull", "transfers", "held", "sorts", "rows",
    };

    public static void main(String[] args) throws IOException {
        String readme = Files.readString(Path.of("README.md"));
        namesEveryTest(readme);
        for (String call : CALLS) {
            Check.yes("README.md names " + call, readme.contains("`" + call + "("));
        }
        example();
        Check.end();
    }

    /** Line by line the example of README.md. */
    private static void example() {
        Check.sentence("Runs queries over two small tables with few frames of memory", "the example of README.md");
        FrameQueries q = new FrameQueries(3);
        Check.yes("a row", q.insert(0, 1, 5, 10, 0));
        Check.yes("a row with NULL", q.insert(0, 1, 4, 0, 4));
        Check.yes("a row of table 1", q.insert(1, 1, 7, 7, 0));
        Check.yes("filter", q.filter(1, 2, 3));
        Check.yes("join", q.join(0, 0));
        int w = q.window(8, 2, 1);
        Check.due("window", w, 0);
        Check.yes("over", q.over(w, 0, 1, false));
        Check.yes("frame", q.frame(w, false, -10, 0));
        Check.yes("order", q.order(6, true));
        Check.due("run()", q.run(), 2);
        Check.due("cell(0, 6)", q.cell(0, 6), 10);
        Check.yes("isNull(1, 6)", q.isNull(1, 6));
        // the filter 1 + 1, the match 1 + 1, the pairs 1, a sort 2, the window 2, a sort 2
        Check.due("transfers()", q.transfers(), 11);
        Check.due("held()", q.held(), 3);
        Check.due("sorts()", q.sorts(), 2);
    }

    private static void namesEveryTest(String readme) throws IOException {
        try (DirectoryStream<Path> tests = Files.newDirectoryStream(Path.of("src/test/java"), "*Test.java")) {
            for (Path test : tests) {
                String name = test.getFileName().toString().replace(".java", "");
                Check.yes("README.md names " + name, readme.contains("`" + name + "`"));
            }
        }
    }
}
