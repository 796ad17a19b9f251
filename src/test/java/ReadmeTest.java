import java.io.ByteArrayOutputStream;
import java.io.IOException;
import java.io.PrintStream;
import java.net.URL;
import java.net.URLClassLoader;
import java.nio.file.DirectoryStream;
import java.nio.file.Files;
import java.nio.file.Path;
import javax.tools.ToolProvider;

/** What README.md says holds: its example, its table of refusals, its list of tests. Run from the project's root. */
public final class ReadmeTest {
    private static final Due DUE = new Due("ReadmeTest");

    public static void main(String[] args) throws IOException, ReflectiveOperationException {
        String readme = Files.readString(Path.of("README.md"));
        example(block(readme, "```java\n"), block(readme, "```text\n"));
        refusals(readme);
        tests(readme);
        DUE.end();
    }

    private static String block(String readme, String mark) {
        int start = readme.indexOf(mark) + mark.length();
        return readme.substring(start, readme.indexOf("```", start));
    }

    /** Compiles the example together with the class, as the page says, and runs it. */
    private static void example(String code, String printed) throws IOException, ReflectiveOperationException {
        Path folder = Files.createDirectories(Path.of("build", "example"));
        Path file = Files.writeString(folder.resolve("Example.java"), code);
        int compiled = ToolProvider.getSystemJavaCompiler().run(null, null, null, "-d", folder.toString(),
            "src/main/java/HandsHall.java", file.toString());
        DUE.is("javac of the example", compiled, 0);
        ByteArrayOutputStream out = new ByteArrayOutputStream();
        PrintStream screen = System.out;
        try (URLClassLoader loader = new URLClassLoader(new URL[] {folder.toUri().toURL()}, null)) {
            System.setOut(new PrintStream(out, true));
            loader.loadClass("Example").getMethod("main", String[].class).invoke(null, (Object) new String[0]);
        } finally {
            System.setOut(screen);
        }
        String got = out.toString().replace("\r\n", "\n");
        DUE.is("the example prints what the page says, not:\n" + got, got.equals(printed) ? 1 : 0, 1);
    }

    private static void refusals(String readme) {
        String[] names = {"UNKNOWN", "OUTSIDE", "STATE", "FULL", "NO"};
        int[] values = {HandsHall.UNKNOWN, HandsHall.OUTSIDE, HandsHall.STATE, HandsHall.FULL, HandsHall.NO};
        int last = 0;
        for (int i = 0; i < names.length; i++) {
            int row = readme.indexOf("| " + values[i] + " | `HandsHall." + names[i] + "` |");
            DUE.is("the row of " + names[i] + " is there, in its order", row > last ? 1 : 0, 1);
            last = row;
        }
        HandsHall x = new HandsHall();
        DUE.is("LOST and UNKNOWN", readme.contains(x.guessing(0, 0) + " for UNKNOWN") ? 1 : 0, 1);
        DUE.is("LOST and OUTSIDE", readme.contains(x.better(2) + " for OUTSIDE") ? 1 : 0, 1);
        DUE.is("NONE", readme.contains("`HandsHall.NONE` (" + HandsHall.NONE + ")") ? 1 : 0, 1);
    }

    private static void tests(String readme) throws IOException {
        try (DirectoryStream<Path> files = Files.newDirectoryStream(Path.of("src/test/java"), "*Test.java")) {
            for (Path file : files) {
                String name = file.getFileName().toString().replace(".java", "");
                DUE.is(name + " is in the table", readme.contains("| `" + name + "` |") ? 1 : 0, 1);
            }
        }
    }
}
