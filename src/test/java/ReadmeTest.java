import java.io.File;
import java.nio.file.Files;
import java.nio.file.Path;
import java.util.List;

/** The example of README.md is compiled and run, and must print what README.md says that it prints. */
public final class ReadmeTest {
    private ReadmeTest() {
    }

    public static void main(String[] args) throws Exception {
        String readme = Files.readString(Path.of(System.getProperty("readme", "README.md")));
        List<String> due = block(readme, "text").lines().toList();
        List<String> got = printed(block(readme, "java")).lines().toList();
        Check.due("README: lines of the example", got.size(), due.size());
        for (int line = 0; line < Math.min(got.size(), due.size()); line++) {
            Check.due("README: line " + (line + 1) + " of the example", got.get(line), due.get(line));
        }
        Check.due("README: for how many calls an object is good", readme.contains("good for 512 calls"), true);
        Check.due("README: how its tests are run", readme.contains("\n    .ci/run\n"), true);
        Check.end();
    }

    private static String block(String readme, String kind) {
        String mark = "\n```" + kind + "\n";
        int from = readme.indexOf(mark);
        int to = from < 0 ? -1 : readme.indexOf("\n```\n", from + mark.length());
        Check.due("README: a block of " + kind, to >= 0, true);
        return to < 0 ? "" : readme.substring(from + mark.length(), to);
    }

    private static String printed(String code) throws Exception {
        Path folder = Files.createTempDirectory("readme");
        String classes = System.getProperty("java.class.path") + File.pathSeparator + folder;
        try {
            Path file = Files.writeString(folder.resolve("Example.java"), code);
            run("javac", "--release", "17", "-Xlint:all", "-Werror", "-cp", classes, "-d", folder.toString(), file.toString());
            return run("java", "-cp", classes, "Example");
        } finally {
            Files.deleteIfExists(folder.resolve("Example.java"));
            Files.deleteIfExists(folder.resolve("Example.class"));
            Files.deleteIfExists(folder);
        }
    }

    private static String run(String... command) throws Exception {
        Process process = new ProcessBuilder(command).redirectError(ProcessBuilder.Redirect.INHERIT).start();
        String said = new String(process.getInputStream().readAllBytes());
        Check.due("README: how " + command[0] + " of the example ends", process.waitFor(), 0);
        return said;
    }
}
