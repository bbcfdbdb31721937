import java.io.IOException;
import java.nio.charset.StandardCharsets;
import java.nio.file.Files;
import java.nio.file.Path;
import java.nio.file.StandardCopyOption;
import java.util.ArrayList;
import java.util.List;
import java.util.Set;
import java.util.TreeSet;
import java.util.regex.Matcher;
import java.util.regex.Pattern;

/**
 * What README.md shows: its program is compiled and run with the commands that it tells, and each
 * call is made and must give the answer that stands behind it.
 */
public final class ReadmeTest {
    private static final Path README = Path.of("README.md");
    private static final Path PROGRAM = Path.of("src/main/java/ExampleDrawers.java");
    private static final Path TRY = Path.of("build/readme");
    private static final Pattern BLOCK = Pattern.compile("(?m)^```(\\w+)\\R((?s:.*?))^```$");
    private static final Pattern CALL = Pattern.compile(
            "x\\." + Calls.WRITTEN + "; +// (-?\\d+)(?:: .*)?");
    private static final int METHODS = 24;
    private static final Due DUE = new Due("ReadmeTest");

    public static void main(String[] args) throws IOException, InterruptedException {
        String page = Files.readString(README);
        program(page);
        calls(page);
        tests(page);
        DUE.end();
    }

    /** The blocks of a kind, such as java or sh. */
    private static List<String> blocks(String page, String kind) {
        List<String> all = new ArrayList<>();
        Matcher matcher = BLOCK.matcher(page);
        while (matcher.find()) {
            if (matcher.group(1).equals(kind)) {
                all.add(matcher.group(2));
            }
        }
        return all;
    }

    private static boolean isProgram(String block) {
        return block.startsWith("public final class Cards ");
    }

    /** In a directory of its own, so that nothing but what the page tells is there. */
    private static void program(String page) throws IOException, InterruptedException {
        DUE.part("the first program");
        List<String> programs = blocks(page, "java");
        programs.removeIf(block -> !isProgram(block));
        DUE.is("programs", programs.size(), 1);
        Path copy = TRY.resolve(PROGRAM);
        Files.createDirectories(copy.getParent());
        Files.copy(PROGRAM, copy, StandardCopyOption.REPLACE_EXISTING);
        Files.writeString(TRY.resolve("Cards.java"), String.join("", programs));
        Process run = new ProcessBuilder("bash", "-e", "-c", String.join("", blocks(page, "sh")))
                .directory(TRY.toFile()).redirectErrorStream(true).start();
        run.getOutputStream().close();
        String printed = new String(run.getInputStream().readAllBytes(), StandardCharsets.UTF_8);
        DUE.is("exit code of the commands", run.waitFor(), 0);
        String due = String.join("", blocks(page, "text"));
        DUE.holds("that it prints \"" + due + "\", it printed \"" + printed + "\"",
                !due.isBlank() && printed.equals(due));
    }

    private static void calls(String page) {
        ExampleDrawers x = new ExampleDrawers();
        Set<String> shown = new TreeSet<>();
        boolean isNew = true;
        for (String block : blocks(page, "java")) {
            if (isProgram(block)) {
                continue;
            }
            for (String line : block.split("\n")) {
                DUE.part("line \"" + line + "\"");
                Matcher matcher = CALL.matcher(line);
                boolean isCall = matcher.matches();
                boolean makes = isNew && line.equals("ExampleDrawers x = new ExampleDrawers();");
                DUE.holds("that this is a call with its answer", isCall || makes || line.isBlank());
                isNew = isNew && !makes;
                if (isCall) {
                    shown.add(matcher.group(1));
                    int[] arguments = Calls.arguments(matcher.group(2));
                    DUE.is(matcher.group(1), Calls.make(x, matcher.group(1), arguments),
                            Integer.parseInt(matcher.group(3)));
                }
            }
        }
        DUE.part("all calls");
        DUE.is("methods that are shown", shown.size(), METHODS);
    }

    private static void tests(String page) throws IOException {
        DUE.part("how to run its tests");
        DUE.holds("that the file of the class is told", page.contains("`" + PROGRAM + "`"));
        DUE.holds("that the command is told", page.contains("\n    bash .ci/run\n"));
        DUE.holds("that the command is there", Files.isExecutable(Path.of(".ci/run")));
        Set<String> told = new TreeSet<>();
        Matcher matcher = Pattern.compile("`(\\w+Test)`").matcher(page);
        while (matcher.find()) {
            told.add(matcher.group(1) + ".java");
        }
        Set<String> there = new TreeSet<>();
        try (var files = Files.newDirectoryStream(Path.of("src/test/java"), "*Test.java")) {
            files.forEach(file -> there.add(file.getFileName().toString()));
        }
        DUE.holds("that the tests are " + there + ", told are " + told, told.equals(there));
    }
}
