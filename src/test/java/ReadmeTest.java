import java.io.ByteArrayOutputStream;
import java.io.File;
import java.io.IOException;
import java.io.PrintStream;
import java.nio.charset.StandardCharsets;
import java.nio.file.Files;
import java.nio.file.Path;

/** README.md shows the example as it is and what it prints, and names every test; run in the project's folder. */
final class ReadmeTest {
    private static final String FENCE = "```";

    public static void main(String[] args) throws IOException {
        String readme = Files.readString(Path.of("README.md"));
        exampleIsShownWhole(readme);
        answersAreAsShown(readme);
        everyTestIsNamed(readme);
        everyPromiseIsNamed(readme);
        Check.finish("ReadmeTest");
    }

    private static void exampleIsShownWhole(String readme) throws IOException {
        Check.due("the example of README.md", Files.readString(Path.of("example", "Example.java")), block(readme, "java"));
    }

    private static void answersAreAsShown(String readme) {
        ByteArrayOutputStream printed = new ByteArrayOutputStream();
        PrintStream console = System.out;
        System.setOut(new PrintStream(printed, true, StandardCharsets.UTF_8));
        try {
            Example.main(new String[0]);
        } finally {
            System.setOut(console);
        }
        Check.due("Example", block(readme, "text"), printed.toString(StandardCharsets.UTF_8).replace("\r\n", "\n"));
    }

    private static void everyTestIsNamed(String readme) {
        String[] files = new File("src/test/java").list();
        Check.due("src/test/java is there", true, files != null);
        int tests = 0;
        for (String file : files) {
            if (file.endsWith("Test.java")) {
                String name = file.substring(0, file.length() - ".java".length());
                Check.due("README.md names " + name, true, readme.matches("(?s).*\\b" + name + "\\b.*"));
                tests++;
            }
        }
        Check.due("there are tests", true, tests > 0);
    }

    /** The rows of the table, "| tests | 1 to 6 |", leave no promise out. */
    private static void everyPromiseIsNamed(String readme) {
        boolean[] named = new boolean[57];
        for (String row : readme.split("\n")) {
            if (row.matches("\\| [A-Za-z, ]+Test \\| [0-9].*")) {
                for (String range : row.split("\\|")[2].trim().split(", ")) {
                    String[] ends = range.split(" to ");
                    for (int k = Integer.parseInt(ends[0]); k <= Integer.parseInt(ends[ends.length - 1]); k++) {
                        named[k] = true;
                    }
                }
            }
        }
        for (int promise = 1; promise <= 56; promise++) {
            Check.due("README.md names tests of promise " + promise, true, named[promise]);
        }
    }

    /** What stands between the fence of a kind and the fence that ends it. */
    private static String block(String readme, String kind) {
        String opening = FENCE + kind + "\n";
        int start = readme.indexOf(opening);
        int end = start < 0 ? -1 : readme.indexOf("\n" + FENCE, start + opening.length());
        return end < 0 ? "" : readme.substring(start + opening.length(), end + 1);
    }
}
