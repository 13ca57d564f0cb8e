import java.io.IOException;
import java.nio.charset.StandardCharsets;
import java.nio.file.Files;
import java.nio.file.Path;
import java.util.ArrayList;
import java.util.List;
import java.util.stream.Stream;

/** What README.md tells a reader to type: its example is made, its commands are run, and what it prints is compared. */
public final class ReadmeTest {
    private static final String RUN_ALL = ".ci/run\n";

    public static void main(String[] args) throws IOException, InterruptedException {
        Check check = new Check();
        String readme = Files.readString(Path.of("README.md"));
        List<String> commands = blocks(readme, "sh");
        check.due("examples in README.md", blocks(readme, "java").size(), 1);
        check.due("outputs in README.md", blocks(readme, "text").size(), 1);
        check.due("rows of commands in README.md", commands.size(), 4);
        check.due("the command for all tests", commands.get(1), RUN_ALL);
        check.due(".ci/run can be run", Files.isExecutable(Path.of(".ci/run")) ? 1 : 0, 1);

        Path place = Files.createTempDirectory("readme");
        try {
            Path project = likeProject(place);
            Files.writeString(project.resolve("Example.java"), blocks(readme, "java").get(0));
            Typed example = type(project, commands.get(0));
            check.due("the example's exit code", example.exitCode, 0);
            check.due("the example", example.printed, blocks(readme, "text").get(0));
            for (String command : commands.subList(2, commands.size())) {
                Typed test = type(project, command);
                check.due(command + test.printed + "its exit code", test.exitCode, 0);
            }
        } finally {
            remove(place);
        }
        check.end();
    }

    /** The blocks of a README that are fenced as of a language. */
    private static List<String> blocks(String text, String language) {
        List<String> found = new ArrayList<>();
        String opening = "\n```" + language + "\n";
        int from = text.indexOf(opening);
        while (from >= 0) {
            int begin = from + opening.length();
            // The line break before the block is looked at again, so that an empty block is found, too.
            int end = text.indexOf("\n```\n", begin - 1) + 1;
            found.add(text.substring(begin, end));
            from = text.indexOf(opening, end);
        }
        return found;
    }

    /** A directory in which the commands find what they would find in the project's, but leave nothing in that. */
    private static Path likeProject(Path place) throws IOException {
        Path project = Files.createDirectory(place.resolve("main"));
        Files.createSymbolicLink(project.resolve("src"), Path.of("src").toAbsolutePath());
        Files.createSymbolicLink(place.resolve("shared"), Path.of("../shared").toRealPath());
        return project;
    }

    private static Typed type(Path directory, String commands) throws IOException, InterruptedException {
        Process process = new ProcessBuilder("sh", "-e", "-c", commands)
            .directory(directory.toFile()).redirectError(ProcessBuilder.Redirect.INHERIT).start();
        process.getOutputStream().close();
        String printed = new String(process.getInputStream().readAllBytes(), StandardCharsets.UTF_8);
        return new Typed(process.waitFor(), printed);
    }

    private static void remove(Path place) throws IOException {
        // Links are not followed: what they lead to is the project itself.
        try (Stream<Path> inside = Files.walk(place)) {
            for (Path path : inside.sorted((a, b) -> b.compareTo(a)).toList()) {
                Files.delete(path);
            }
        }
    }

    private record Typed(int exitCode, String printed) {
    }
}
