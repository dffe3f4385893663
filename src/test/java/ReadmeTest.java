import java.io.IOException;
import java.nio.file.Files;
import java.nio.file.Path;
import java.util.ArrayList;
import java.util.List;
import java.util.TreeSet;
import java.util.regex.Matcher;
import java.util.regex.Pattern;
import java.util.stream.Stream;

/** What README.md shows of the class's use holds when it is run, and its table names every test. */
public final class ReadmeTest {
    private static final Path README = Path.of("README.md");
    private static final Path MAIN = Path.of("src/main/java/PageMaker.java");
    private static final Path TESTS = Path.of("src/test/java");
    private static final Check check = new Check();

    public static void main(String[] args) throws IOException, InterruptedException {
        String readme = Files.readString(README);
        printsWhatIsShown(readme);
        namesEveryTest(readme);
        check.end();
    }

    private static void printsWhatIsShown(String readme) throws IOException, InterruptedException {
        List<String> programs = blocks(readme, "java");
        List<String> commands = blocks(readme, "sh");
        List<String> outputs = blocks(readme, "text");
        if (programs.size() != 1 || outputs.size() != 1 || commands.isEmpty()) {
            check.tell("README.md needs one example, the commands that run it and one output");
            return;
        }
        Path room = Files.createTempDirectory("readme");
        try {
            Path main = room.resolve(MAIN);
            Files.createDirectories(main.getParent());
            Files.copy(MAIN, main);
            Files.writeString(room.resolve("Example.java"), programs.get(0));
            check.due("README.md's example", run(room, commands.get(0)), outputs.get(0));
        } finally {
            remove(room);
        }
    }

    private static List<String> blocks(String readme, String kind) {
        Matcher matcher = Pattern.compile("^```" + kind + "\\n(.*?)^```$", Pattern.MULTILINE | Pattern.DOTALL).matcher(readme);
        List<String> found = new ArrayList<>();
        while (matcher.find()) {
            found.add(matcher.group(1));
        }
        return found;
    }

    /** What the commands print, and their exit code if it is not 0. Errors go where this test's own go. */
    private static String run(Path room, String commands) throws IOException, InterruptedException {
        Process process = new ProcessBuilder("sh", "-e", "-c", commands)
                .directory(room.toFile()).redirectError(ProcessBuilder.Redirect.INHERIT).start();
        process.getOutputStream().close();
        String printed = new String(process.getInputStream().readAllBytes());
        int code = process.waitFor();
        return code == 0 ? printed : printed + "exit code " + code + "\n";
    }

    private static void namesEveryTest(String readme) throws IOException {
        TreeSet<String> named = new TreeSet<>();
        Matcher matcher = Pattern.compile("`(\\w+Test)`").matcher(readme);
        while (matcher.find()) {
            named.add(matcher.group(1));
        }
        TreeSet<String> there = new TreeSet<>();
        try (Stream<Path> files = Files.list(TESTS)) {
            files.map(file -> file.getFileName().toString())
                    .filter(name -> name.endsWith("Test.java"))
                    .forEach(name -> there.add(name.substring(0, name.length() - ".java".length())));
        }
        check.due("the tests that README.md names", named.toString(), there.toString());
    }

    private static void remove(Path room) throws IOException {
        List<Path> all;
        try (Stream<Path> files = Files.walk(room)) {
            all = new ArrayList<>(files.toList());
        }
        for (int i = all.size() - 1; i >= 0; i--) {
            Files.delete(all.get(i));
        }
    }
}
