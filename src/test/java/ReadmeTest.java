import java.io.ByteArrayOutputStream;
import java.io.IOException;
import java.io.PrintStream;
import java.nio.file.Files;
import java.nio.file.Path;
import java.nio.file.Paths;
import java.util.ArrayList;
import java.util.List;

/** The example of README.md: it is run as it stands there, and prints what is said there. Runs in the project's folder. */
public final class ReadmeTest {
    private static final Path README = Paths.get("README.md");
    private static final Path SOURCE = Paths.get("src/test/java/ReadmeTest.java");
    private static final String PRINTS = "// prints ";

    public static void main(String[] args) throws IOException {
        List<String> told = between(README, "```java", "```");
        Check.due("the example", told, between(SOURCE, "private static void example() {", "}"));
        Check.due("what it prints", printed(), announced(told));
        Check.end("ReadmeTest");
    }

    // Line by line as in README.md: what prints runs is what a reader of it tries.
    private static void example() {
        CursorBench bench = new CursorBench();
        bench.fill(CursorBench.LINKED, 1, 1, 5);                              // the row LINKED has 1 2 3 4 5
        bench.open(0, CursorBench.LINKED, CursorBench.LIST, 2);               // slot 0: a cursor between 2 and 3
        System.out.println(bench.next(0));                                    // prints 3
        System.out.println(bench.remove(0));                                  // prints 4: 1 2 4 5 are left
        System.out.println(bench.remove(0) == CursorBench.NO_STATE);          // prints true: no number is told now
        System.out.println(bench.insert(0, -7));                              // prints 5: 1 2 -7 4 5
        bench.clearText();
        bench.type('2' << 24 | '(' << 16 | 'p' << 8 | ')');                   // the text is the program 2(p)
        System.out.println(bench.errorKind() + " " + bench.errorPlace());     // prints 0 -1: it has no error
        System.out.println(bench.play(0));                                    // prints 2: the cursor went back twice
        System.out.println(bench.nextPlace(0));                               // prints 1
        System.out.println(bench.twice(CursorBench.LINKED));                  // prints 10: 1 1 2 2 -7 -7 4 4 5 5
        System.out.println(bench.isOpen(0));                                  // prints false: twice loses the cursors
    }

    private static List<String> printed() {
        PrintStream screen = System.out;
        ByteArrayOutputStream kept = new ByteArrayOutputStream();
        System.setOut(new PrintStream(kept, true));
        example();
        System.setOut(screen);
        return kept.toString().lines().toList();
    }

    /** What the lines say that they print: up to a colon, if there is one. */
    private static List<String> announced(List<String> lines) {
        List<String> answers = new ArrayList<>();
        for (String line : lines) {
            int at = line.indexOf(PRINTS);
            if (at >= 0) {
                answers.add(line.substring(at + PRINTS.length()).split(":")[0]);
            }
        }
        return answers;
    }

    /** The lines of a file between the first one that is such a begin and the next one that is such an end. */
    private static List<String> between(Path file, String begin, String end) throws IOException {
        List<String> found = new ArrayList<>();
        boolean isWithin = false;
        for (String line : Files.readAllLines(file)) {
            String text = line.trim();
            if (isWithin && text.equals(end)) {
                return found;
            }
            if (isWithin) {
                found.add(text);
            }
            isWithin = isWithin || text.equals(begin);
        }
        return found;
    }
}
