import java.io.IOException;
import java.nio.file.Files;
import java.nio.file.Path;
import java.nio.file.Paths;
import java.util.List;
import java.util.regex.Matcher;
import java.util.regex.Pattern;

/** What LANGUAGE.md rules out, or the program does without, as its lines show. Runs in the project's folder. */
public final class SourceTest {
    private static final int LONGEST_METHOD = 60;
    private static final String[] RULED_OUT = {"->", "::", "\\btry\\b", "\\bcatch\\b", "\\bfinally\\b", "\\bassert\\b",
        "\\bsynchronized\\b", "\\bpackage\\b", "\\bprotected\\b", "\\bException\\b", "\\bThrowable\\b", "\\bequals\\b",
        "\\bhashCode\\b", "\\btoString\\b", "Exact\\b", "\\bRandom\\b", "\\bThread\\b", "\\bObject\\b", "\" \\+",
        "\\+ \"", "currentTime", "nanoTime", "[^\\x00-\\x7e]"};

    public static void main(String[] args) throws IOException {
        Path program = Paths.get("src/main/java/CursorBench.java");
        List<String> lines = Files.readAllLines(program);
        int begin = -1;
        for (int index = 0; index < lines.size(); index++) {
            String line = lines.get(index);
            String code = line.trim().startsWith("/") || line.trim().startsWith("*") ? "" : line;
            Check.due("import in line " + (index + 1), code.startsWith("import")
                    && !code.equals("import java.util.NoSuchElementException;"), false);
            for (String pattern : RULED_OUT) {
                Matcher found = Pattern.compile(pattern).matcher(code);
                Check.due(pattern + " in line " + (index + 1), found.find(), false);
            }
            if (code.matches("( {4}| {8})[\\w\\[\\]].*\\)( throws .*)?( \\{)?") && !code.contains(" = ")) {
                begin = index;
            } else if (code.matches("( {4}| {8})\\}") && begin >= 0) {
                Check.due("the method in line " + (begin + 1) + " is short", index - begin < LONGEST_METHOD, true);
                begin = -1;
            }
        }
        Check.end("SourceTest");
    }
}
