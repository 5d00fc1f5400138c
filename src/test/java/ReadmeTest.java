import java.io.IOException;
import java.lang.reflect.Method;
import java.nio.charset.StandardCharsets;
import java.nio.file.DirectoryStream;
import java.nio.file.Files;
import java.nio.file.Path;

/** README.md tells the truth: its example prints what it says, and no call and no test is left out. */
public final class ReadmeTest {
    private static final Check check = new Check("ReadmeTest");

    public static void main(String[] args) throws IOException, InterruptedException {
        String page = Files.readString(Path.of("README.md"));
        example(block(page, "java"), block(page, "text"));
        calls(page);
        tests(page);
        check.end();
    }

    /** What stands in the page's first block of this kind. */
    private static String block(String page, String kind) {
        String fence = "```" + kind + "\n";
        int start = page.indexOf(fence);
        int end = page.indexOf("```\n", start + fence.length());
        check.is("a block of " + kind, start >= 0 && end >= 0, true);
        return start >= 0 && end >= 0 ? page.substring(start + fence.length(), end) : "";
    }

    private static void example(String program, String due) throws IOException, InterruptedException {
        Path folder = Files.createTempDirectory("readme");
        Path file = folder.resolve("Example.java");
        try {
            Files.writeString(file, program);
            check.is("the example", printed(file), due);
        } finally {
            Files.deleteIfExists(file);
            Files.delete(folder);
        }
    }

    private static String printed(Path program) throws IOException, InterruptedException {
        Process run = new ProcessBuilder(
                Path.of(System.getProperty("java.home"), "bin", "java").toString(),
                "-cp", System.getProperty("java.class.path"), program.toString())
                .redirectErrorStream(true).start();
        String printed = new String(run.getInputStream().readAllBytes(), StandardCharsets.UTF_8);
        check.is("the example's exit code", run.waitFor(), 0);
        return printed.replace("\r\n", "\n");
    }

    private static void calls(String page) {
        for (Method method : BottleShip.class.getMethods()) {
            if (method.getDeclaringClass() == BottleShip.class) {
                check.is(method.getName() + " is told", page.contains("`" + method.getName() + "("), true);
            }
        }
    }

    private static void tests(String page) throws IOException {
        try (DirectoryStream<Path> files =
                Files.newDirectoryStream(Path.of("src", "test", "java"), "*Test.java")) {
            for (Path file : files) {
                String name = file.getFileName().toString().replace(".java", "");
                check.is(name + " is told", page.contains("| `" + name + "` |"), true);
            }
        }
    }
}
