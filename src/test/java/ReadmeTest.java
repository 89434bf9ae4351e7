import java.io.IOException;
import java.lang.reflect.Method;
import java.nio.file.Files;
import java.nio.file.Path;
import java.util.ArrayList;
import java.util.List;

/** README.md, read from the project's folder: it tells each method, and its example answers as it says. */
final class ReadmeTest {
    private static final List<String> LINES = new ArrayList<>();

    private ReadmeTest() {
    }

    public static void main(String[] args) throws IOException {
        LINES.addAll(Files.readAllLines(Path.of("README.md")));
        Check.sentence("README: each method of the face, and what it throws", ReadmeTest::methods);
        Check.sentence("README: what count tells", ReadmeTest::counts);
        Check.sentence("README: the constants", ReadmeTest::constants);
        Check.sentence("README: the example", ReadmeTest::example);
        Check.sentence("README: each test of the project", ReadmeTest::tests);
        Check.end();
    }

    private static void methods() {
        for (Method method : CuckooPages.class.getDeclaredMethods()) {
            if (method.toString().startsWith("public ")) {
                String start = "| `" + method.getReturnType() + " " + method.getName() + "(";
                Check.due("rows of " + start, startingWith(start).size(), 1);
                for (Class<?> thrown : method.getExceptionTypes()) {
                    String row = String.join("", startingWith(start));
                    Check.due(start + " throws " + thrown, row.contains("`" + thrown.getSimpleName() + "`"), true);
                }
            }
        }
        Check.due("rows of the constructor", startingWith("| `CuckooPages()`").size(), 1);
    }

    private static void counts() {
        for (int what = 0; what <= 8; what++) {
            Check.due("rows of count(" + what + ")", startingWith("| " + what + " |").size(), 1);
        }
    }

    private static void constants() {
        String all = String.join("\n", LINES);
        Check.due("NONE", all.contains("`NONE` (" + CuckooPages.NONE), true);
        Check.due("FULL", all.contains("`FULL` (" + CuckooPages.FULL), true);
    }

    /** The calls of the example in its order, each looked up in README behind the one before. */
    private static void example() {
        int line = LINES.indexOf("CuckooPages pages = new CuckooPages();");
        Check.due("README has the example", line >= 0, true);
        CuckooPages pages = new CuckooPages();
        pages.seed(0, 77);
        String[] calls = {
            "seed(0, 77)", "only before the first write",
            "put(5, 50)", "" + pages.put(5, 50),
            "put(5, 51)", "" + pages.put(5, 51),
            "get(5)", "" + pages.get(5),
            "reads(5)", "" + pages.reads(5),
            "sync()", "" + pages.sync(),
            "remove(5)", "" + pages.remove(5),
            "has(5)", "" + pages.has(5),
            "crash(0)", "" + pages.crash(0),
            "has(5)", "" + pages.has(5),
            "get(5)", "" + pages.get(5),
            "count(2)", "" + pages.count(2)
        };
        for (int i = 0; i < calls.length; i += 2) {
            line++;
            String told = line < LINES.size() ? LINES.get(line).replaceAll(" {2,}", " ").replaceAll(": .*", "") : "";
            Check.dueSame("the example", told, "pages." + calls[i] + "; // " + calls[i + 1]);
        }
        Check.dueSame("the example's end", line + 1 < LINES.size() ? LINES.get(line + 1) : "", "```");
    }

    private static void tests() {
        String[] files = Path.of("src/test/java").toFile().list();
        Check.due("there are tests", files != null && files.length > 0, true);
        for (String file : files == null ? new String[0] : files) {
            if (file.endsWith("Test.java")) {
                String start = "| " + file.replace(".java", "") + " |";
                Check.due("rows of " + start, startingWith(start).size(), 1);
            }
        }
    }

    private static List<String> startingWith(String start) {
        return LINES.stream().filter(line -> line.startsWith(start)).toList();
    }
}
