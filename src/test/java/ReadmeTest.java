import java.io.IOException;
import java.lang.reflect.Method;
import java.lang.reflect.Modifier;
import java.nio.charset.StandardCharsets;
import java.nio.file.Files;
import java.nio.file.Path;
import java.util.ArrayList;
import java.util.Comparator;
import java.util.List;
import java.util.concurrent.TimeUnit;
import java.util.regex.Matcher;
import java.util.regex.Pattern;
import java.util.stream.Stream;

/** That README.md names each call and each test, and that its program and its commands do what it says. */
public final class ReadmeTest {
    private static final Check CHECK = new Check();
    private static final Path TESTS = Path.of("src/test/java");

    /** What stands in the page between lines of three backquotes, behind a word. */
    private static List<String> blocks(String page, String word) {
        List<String> blocks = new ArrayList<>();
        Matcher matcher = Pattern.compile("(?ms)^```" + word + "\n(.*?)^```$").matcher(page);
        while (matcher.find()) {
            blocks.add(matcher.group(1));
        }
        return blocks;
    }

    private static void namesEachCall(String page) {
        for (Method method : NoteWatermarks.class.getDeclaredMethods()) {
            if (Modifier.isPublic(method.getModifiers())) {
                CHECK.dueThat("README.md names " + method.getName(), page.contains("`" + method.getName() + "`"));
            }
        }
    }

    private static void namesEachTest(String page) throws IOException {
        try (Stream<Path> files = Files.list(TESTS)) {
            files.map(file -> file.getFileName().toString()).forEach(name ->
                    CHECK.dueThat("README.md names " + name, page.contains("`" + name + "`")));
        }
    }

    /** A checkout with ../shared beside it, in which commands may write. */
    private static Path checkout(Path where, String example) throws IOException {
        Path main = Files.createDirectory(where.resolve("main"));
        Files.createSymbolicLink(main.resolve("src"), Path.of("src").toAbsolutePath());
        Files.createSymbolicLink(where.resolve("shared"), Path.of("../shared").toAbsolutePath().normalize());
        Files.writeString(main.resolve("Example.java"), example, StandardCharsets.UTF_8);
        return main;
    }

    /** What commands print, and their exit code behind it. */
    private static String printed(Path where, String commands) throws IOException, InterruptedException {
        Process process = new ProcessBuilder("bash", "-e", "-c", commands)
                .directory(where.toFile()).redirectError(ProcessBuilder.Redirect.INHERIT).start();
        String printed = new String(process.getInputStream().readAllBytes(), StandardCharsets.UTF_8);
        boolean hasEnded = process.waitFor(5, TimeUnit.MINUTES);
        return printed + "exit code " + (hasEnded ? process.exitValue() : "none");
    }

    private static void commands(String page, Path where) throws IOException, InterruptedException {
        List<String> programs = blocks(page, "java");
        List<String> outputs = blocks(page, "text");
        List<String> commands = blocks(page, "sh");
        CHECK.due("programs, outputs and commands in README.md", "1 1 2",
                programs.size() + " " + outputs.size() + " " + commands.size());
        if (programs.size() == 1 && outputs.size() == 1 && commands.size() == 2) {
            Path main = checkout(where, programs.get(0));
            CHECK.due("the example of README.md", outputs.get(0) + "exit code 0", printed(main, commands.get(0)));
            String single = printed(main, commands.get(1));
            CHECK.dueThat("single tests: " + single, single.matches(
                    "(?s)\\d+ answers looked at, 0 not as due\nall answers are as due\nexit code 0"));
        }
    }

    private static void remove(Path folder) throws IOException {
        try (Stream<Path> files = Files.walk(folder)) {
            for (Path file : files.sorted(Comparator.reverseOrder()).toList()) {
                Files.delete(file);
            }
        }
    }

    public static void main(String[] args) throws IOException, InterruptedException {
        String page = Files.readString(Path.of("README.md"), StandardCharsets.UTF_8);
        namesEachCall(page);
        namesEachTest(page);
        Path where = Files.createTempDirectory("readme");
        try {
            commands(page, where);
        } finally {
            remove(where);
        }
        CHECK.end();
    }
}
