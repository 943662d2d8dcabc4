import java.io.ByteArrayOutputStream;
import java.io.IOException;
import java.io.PrintStream;
import java.nio.file.Files;
import java.nio.file.Path;

/** README.md shows Example.java as it is and what it prints, names every test, and every call. */
public final class ReadmeTest {
    private static final int NOT_THERE = -1;

    private ReadmeTest() {
    }

    public static void main(String[] args) throws IOException {
        String readme = Files.readString(Path.of("README.md"));
        String example = Files.readString(Path.of("src/test/java/Example.java"));
        Due.is("the example is shown", block(readme, "java").equals(example), true);
        Due.is("what it prints is shown", block(readme, "text").equals(printed()), true);
        namesEveryTest(readme);
        namesEveryCall(readme);
        Due.end();
    }

    // What stands in the first block of that kind.
    private static String block(String readme, String kind) {
        String head = "```" + kind + "\n";
        int from = readme.indexOf(head);
        int to = from < 0 ? NOT_THERE : readme.indexOf("```", from + head.length());
        return to < 0 ? "no block " + kind : readme.substring(from + head.length(), to);
    }

    private static String printed() {
        PrintStream screen = System.out;
        ByteArrayOutputStream bytes = new ByteArrayOutputStream();
        System.setOut(new PrintStream(bytes, true));
        Example.main(new String[0]);
        System.setOut(screen);
        return bytes.toString();
    }

    private static void namesEveryTest(String readme) throws IOException {
        try (var files = Files.newDirectoryStream(Path.of("src/test/java"), "*Test.java")) {
            for (Path file : files) {
                String name = file.getFileName().toString().replace(".java", "");
                Due.is("a row of " + name, readme.contains("| `" + name + "` |"), true);
            }
        }
    }

    private static void namesEveryCall(String readme) {
        for (var call : SleepRope.class.getMethods()) {
            if (call.getDeclaringClass() == SleepRope.class) {
                Due.is(call.getName() + " is named", readme.matches("(?s).*`" + call.getName() + "[`(].*"), true);
            }
        }
    }
}
