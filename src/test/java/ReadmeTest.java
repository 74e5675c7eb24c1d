import java.io.IOException;
import java.nio.charset.StandardCharsets;
import java.nio.file.Files;
import java.nio.file.Path;
import java.util.ArrayList;
import java.util.Comparator;
import java.util.List;
import java.util.regex.Matcher;
import java.util.regex.Pattern;
import java.util.stream.Stream;

/** README.md as a reader would follow it: its commands are run, its example answers what stands behind each call. */
public final class ReadmeTest {
    // This command runs this very test, so it is only looked for.
    private static final String ALL_TESTS = ".ci/run";
    private static final Pattern ANSWER = Pattern.compile("System\\.out\\.println\\(.*\\);\\s*// (-?\\d+)\\b.*");
    private static final Pattern COMMAND = Pattern.compile("`(java|javac|bash|sh|\\.ci/run)\\b[^`\n]*`");

    private ReadmeTest() {
    }

    public static void main(String[] args) throws IOException, InterruptedException {
        String readme = Files.readString(Path.of("README.md"));
        Path place = Files.createTempDirectory("readme");
        try {
            copySources(place);
            followAll(readme, place);
        } finally {
            remove(place);
        }
        namesAllCalls(readme);
        Check.end();
    }

    private static void followAll(String readme, Path place) throws IOException, InterruptedException {
        List<String> examples = blocks(readme, "java");
        List<String> commands = commands(readme);
        Check.says("The example of use that README.md shows, with the answers it names, must work as written");
        Check.due("examples in README.md", examples.size(), 1);
        String example = examples.isEmpty() ? "" : examples.get(0);
        Files.writeString(place.resolve("Example.java"), example);
        Check.due("README.md runs its example", commands.stream().anyMatch(c -> c.endsWith(" Example.java")), true);

        for (String command : commands) {
            Check.says("The commands that README.md gives for running the tests must work as written");
            if (command.equals(ALL_TESTS)) {
                Check.due(ALL_TESTS + " can be run", Files.isExecutable(Path.of(ALL_TESTS)), true);
                continue;
            }
            List<String> lines = new ArrayList<>();
            Check.due(command, run(command, place, lines), 0);
            if (command.endsWith(" Example.java")) {
                Check.says("The example of use that README.md shows, with the answers it names, must work as written");
                Check.same(command, lines.toString(), answers(example).toString());
            }
        }
    }

    /** Lines of all blocks marked as commands; none may stand elsewhere, where they would not be run. */
    private static List<String> commands(String readme) {
        List<String> commands = new ArrayList<>();
        for (String block : blocks(readme, "sh")) {
            block.lines().filter(line -> !line.isBlank()).forEach(commands::add);
        }
        Check.says("The commands that README.md gives for running the tests must work as written");
        Check.due("README.md gives " + ALL_TESTS, commands.contains(ALL_TESTS), true);
        Matcher loose = COMMAND.matcher(readme);
        while (loose.find()) {
            String command = loose.group().replace("`", "");
            Check.due(command + " stands in a block of commands", commands.contains(command), true);
        }
        return commands;
    }

    private static List<String> blocks(String readme, String kind) {
        List<String> blocks = new ArrayList<>();
        Matcher block = Pattern.compile("(?ms)^```" + kind + "\n(.*?)^```$").matcher(readme);
        while (block.find()) {
            blocks.add(block.group(1));
        }
        return blocks;
    }

    private static List<String> answers(String example) {
        List<String> answers = new ArrayList<>();
        for (String line : example.lines().toList()) {
            Matcher answer = ANSWER.matcher(line.strip());
            if (answer.matches()) {
                answers.add(answer.group(1));
            } else {
                Check.due("an answer stands behind " + line.strip(), line.contains("println"), false);
            }
        }
        Check.due("the example names answers", !answers.isEmpty(), true);
        return answers;
    }

    private static int run(String command, Path place, List<String> lines) throws IOException, InterruptedException {
        Process process = new ProcessBuilder("bash", "-c", command).directory(place.toFile()).redirectErrorStream(true).start();
        process.getOutputStream().close();
        String output = new String(process.getInputStream().readAllBytes(), StandardCharsets.UTF_8);
        output.lines().forEach(lines::add);
        int code = process.waitFor();
        if (code != 0) {
            System.out.println(output);
        }
        return code;
    }

    private static void namesAllCalls(String readme) {
        Check.says("README.md says how to use the class");
        for (var method : RiddleDoors.class.getDeclaredMethods()) {
            if (java.lang.reflect.Modifier.isPublic(method.getModifiers())) {
                Check.due("README.md names " + method.getName(), readme.contains("`" + method.getName() + "("), true);
            }
        }
    }

    private static void copySources(Path place) throws IOException {
        try (Stream<Path> all = Files.walk(Path.of("src"))) {
            for (Path path : all.toList()) {
                Path copy = place.resolve(path.toString());
                if (Files.isDirectory(path)) {
                    Files.createDirectories(copy);
                } else {
                    Files.copy(path, copy);
                }
            }
        }
    }

    private static void remove(Path place) throws IOException {
        try (Stream<Path> all = Files.walk(place)) {
            for (Path path : all.sorted(Comparator.reverseOrder()).toList()) {
                Files.delete(path);
            }
        }
    }
}
