import java.io.IOException;
import java.nio.file.FileVisitResult;
import java.nio.file.Files;
import java.nio.file.Path;
import java.nio.file.SimpleFileVisitor;
import java.nio.file.StandardCopyOption;
import java.nio.file.attribute.BasicFileAttributes;
import java.util.ArrayList;
import java.util.List;
import java.util.regex.Matcher;
import java.util.regex.Pattern;

/** README.md: each command works as it stands there in a checkout that nothing has been built in; its example is one. */
public final class ReadmeTest {
    private static final Path COPIES = Path.of("build", "readme");
    private static final Path EXAMPLE = Path.of("src", "example", "java", "Example.java");
    private static final Pattern FENCED = Pattern.compile("(?ms)^```(\\w+)\\n(.*?)^```$");
    private static final Pattern INLINE = Pattern.compile("`(javac? [^`]*)`");
    private static final String ALL_TESTS = ".ci/run";

    private static final Checks c = new Checks();

    public static void main(String[] args) throws IOException, InterruptedException {
        String readme = Files.readString(Path.of("README.md"));
        List<String> programs = fenced(readme, "java");
        c.due("programs in README.md", programs.size(), 1);
        c.yes("README.md shows " + EXAMPLE, Files.isRegularFile(EXAMPLE)
                && programs.contains(Files.readString(EXAMPLE)));
        commandOfAllTests(readme);
        commands(readme);
        everyTestIsListed(readme);
        c.end();
    }

    private static List<String> fenced(String readme, String kind) {
        List<String> blocks = new ArrayList<>();
        Matcher block = FENCED.matcher(readme);
        while (block.find()) {
            if (block.group(1).equals(kind)) {
                blocks.add(block.group(2));
            }
        }
        return blocks;
    }

    /** Not run from here, as it is what runs this test. */
    private static void commandOfAllTests(String readme) {
        c.yes("README.md names " + ALL_TESTS, fenced(readme, "sh").contains(ALL_TESTS + "\n"));
        c.yes(ALL_TESTS + " can be run", Files.isExecutable(Path.of(ALL_TESTS)));
    }

    /** Each of the blocks gets a copy of its own, so that none lives on what another has built. */
    private static void commands(String readme) throws IOException, InterruptedException {
        List<String> blocks = fenced(readme, "sh");
        Matcher inline = INLINE.matcher(readme);
        while (inline.find()) {
            blocks.add(inline.group(1));
        }
        blocks.remove(ALL_TESTS + "\n");
        List<String> printed = new ArrayList<>();
        for (int i = 0; i < blocks.size(); i++) {
            printed.add(run(blocks.get(i), COPIES.resolve("copy" + i)));
        }
        for (String told : fenced(readme, "text")) {
            c.yes("a command of README.md prints " + told, printed.contains(told));
        }
    }

    private static String run(String block, Path copy) throws IOException, InterruptedException {
        checkOut(copy);
        Process process = new ProcessBuilder("bash", "-e", "-c", block)
                .directory(copy.toFile()).redirectError(ProcessBuilder.Redirect.INHERIT).start();
        process.getOutputStream().close();
        String printed = new String(process.getInputStream().readAllBytes());
        c.due("exit code of " + block.strip(), process.waitFor(), 0);
        return printed;
    }

    private static void checkOut(Path copy) throws IOException {
        for (String part : List.of("README.md", ".ci", "src")) {
            copyTree(Path.of(part), copy.resolve(part));
        }
    }

    private static void copyTree(Path from, Path to) throws IOException {
        Files.walkFileTree(from, new SimpleFileVisitor<>() {
            @Override
            public FileVisitResult visitFile(Path file, BasicFileAttributes attributes) throws IOException {
                Path target = file.equals(from) ? to : to.resolve(from.relativize(file));
                Files.createDirectories(target.getParent());
                Files.copy(file, target, StandardCopyOption.COPY_ATTRIBUTES, StandardCopyOption.REPLACE_EXISTING);
                return FileVisitResult.CONTINUE;
            }
        });
    }

    private static void everyTestIsListed(String readme) throws IOException {
        try (var files = Files.list(Path.of("src", "test", "java"))) {
            for (Path file : files.sorted().toList()) {
                String name = file.getFileName().toString().replace(".java", "");
                c.yes("README.md lists " + name, !name.endsWith("Test") || readme.contains("| `" + name + "` |"));
            }
        }
    }
}
