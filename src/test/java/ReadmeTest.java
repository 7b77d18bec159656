import java.io.IOException;
import java.nio.file.Files;
import java.nio.file.Path;
import java.util.ArrayList;
import java.util.List;

/** The example in README.md answers what its comments say: each line of it is called here, in its order. */
public final class ReadmeTest {
    private static final Path README = Path.of("README.md");

    private static final List<String> LINES = new ArrayList<>();
    private static int next = 0;

    public static void main(String[] args) throws IOException {
        readExample(Files.readString(README));
        LentBounds x = new LentBounds();
        due("LentBounds x = new LentBounds();", "");
        due("x.weigh(5, 0);", x.weigh(5, 0));
        int stock = x.bound(0, 10, 17);
        due("int stock = x.bound(0, 10, 17);", stock);
        Check.dueShares(x, stock, 0, 2, 2, 2, 2, 2, 0);
        Check.dueShares(x, stock, 1, 2, 2, 1, 1, 1, 0);
        due("x.take(stock, 0, 2);", x.take(stock, 0, 2));
        due("x.sum(stock, 0);", x.sum(stock, 0));
        due("x.share(stock, 1, 0);", x.share(stock, 1, 0));
        due("x.take(stock, 0, 3);", x.take(stock, 0, 3));
        due("x.patient(0, true);", x.patient(0, true));
        due("x.take(stock, 0, 3);", x.take(stock, 0, 3));
        int row = x.ask(stock, 0, 0, 3);
        due("int row = x.ask(stock, 0, 0, 3);", row);
        due("x.lent(row);", x.lent(row));
        due("x.deliver(row);", x.deliver(row));
        due("x.deliver(row);", x.deliver(row));
        int more = x.lend(stock, 0, 2, 0, 1);
        due("int more = x.lend(stock, 0, 2, 0, 1);", more);
        due("x.deliver(more);", x.deliver(more));
        due("x.sum(stock, 0);", x.sum(stock, 0));
        int late = x.lend(stock, 0, 3, 4, 1);
        due("int late = x.lend(stock, 0, 3, 4, 1);", late);
        due("x.lose(late);", x.lose(late));
        due("x.sum(stock, 7);", x.sum(stock, 7));
        due("x.end(3);", x.end(3));
        due("x.sum(stock, 7);", x.sum(stock, 7));
        for (int person : new int[] {0, 1, 2, 4, 5}) {
            due("x.vouch(" + person + ", 3);", x.vouch(person, 3));
        }
        due("x.sum(stock, 7);", x.sum(stock, 7));
        Check.due("lines of the example that are called here", next, LINES.size());
        Check.finish();
    }

    private static void readExample(String readme) {
        String fence = "```java\n";
        int start = readme.indexOf(fence) + fence.length();
        int end = readme.indexOf("```", start);
        Check.due("README.md has an example", readme.contains(fence) && end > start, true);
        LINES.addAll(readme.substring(start, end).lines().toList());
    }

    /** The next line of the example is this call, and its comment begins with this answer. */
    private static void due(String call, Object answer) {
        String line = next < LINES.size() ? LINES.get(next) : "";
        next++;
        String[] parts = line.split(" *// ", 2);
        String said = parts.length < 2 ? "" : parts[1].replaceFirst(":.*", "");
        Check.due("line '" + line + "' is " + call, parts[0].equals(call), true);
        Check.due("line '" + line + "' says " + answer, said.equals(answer.toString()), true);
    }
}
