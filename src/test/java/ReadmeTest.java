import java.io.IOException;
import java.lang.reflect.Method;
import java.lang.reflect.Modifier;
import java.nio.charset.StandardCharsets;
import java.nio.file.Files;
import java.nio.file.Path;
import java.util.Comparator;
import java.util.List;
import java.util.Set;
import java.util.TreeSet;
import java.util.regex.Matcher;
import java.util.regex.Pattern;
import java.util.stream.Collectors;
import java.util.stream.Stream;

/** What README.md says of use and of the tests is followed word by word. */
public final class ReadmeTest {
    private static final Path CLASS = Path.of("src/main/java/FrozenDistricts.java");

    public static void main(String[] args) throws IOException, InterruptedException {
        String page = Files.readString(Path.of("README.md"), StandardCharsets.UTF_8);
        example(page);
        calls(between(page, "### The calls", "### The answers"));
        constants(between(page, "### The answers", "## How to run its tests"));
        refusals();
        tests(between(page, "## How to run its tests", null));
        Check.end("ReadmeTest");
    }

    /** The example is written, compiled, and run by the page's own commands, and prints what stands there. */
    private static void example(String page) throws IOException, InterruptedException {
        Path place = Files.createTempDirectory("readme");
        try {
            Files.createDirectories(place.resolve(CLASS).getParent());
            Files.copy(CLASS, place.resolve(CLASS));
            Files.writeString(place.resolve("Example.java"), block(page, "java"));
            Process shell = new ProcessBuilder("bash", "-e", "-c", block(page, "sh"))
                .directory(place.toFile()).redirectError(ProcessBuilder.Redirect.INHERIT).start();
            shell.getOutputStream().close();
            String printed = new String(shell.getInputStream().readAllBytes(), StandardCharsets.UTF_8);
            Check.due("README: the commands end well", shell.waitFor(), 0);
            Check.isTrue("README: what the example prints, which is\n" + printed, printed.equals(block(page, "text")));
        } finally {
            remove(place);
        }
    }

    private static void remove(Path place) throws IOException {
        try (Stream<Path> all = Files.walk(place)) {
            for (Path each : all.sorted(Comparator.reverseOrder()).collect(Collectors.toList())) {
                Files.delete(each);
            }
        }
    }

    private static void calls(String told) {
        Set<String> methods = new TreeSet<>();
        for (Method method : FrozenDistricts.class.getDeclaredMethods()) {
            if (Modifier.isPublic(method.getModifiers())) {
                methods.add(method.getName());
            }
        }
        Set<String> named = new TreeSet<>();
        for (String row : told.split("\n")) {
            if (row.startsWith("| `")) {
                named.addAll(found("`(\\w+)`", row.split("\\|")[1]));
            }
        }
        Check.isTrue("README: the calls of the class, not " + named, named.equals(methods));
    }

    private static void constants(String told) {
        List<String> rows = List.of(
            "| `UNKNOWN` | " + FrozenDistricts.UNKNOWN + " |", "| `BAD_VALUE` | " + FrozenDistricts.BAD_VALUE + " |",
            "| `FULL` | " + FrozenDistricts.FULL + " |", "| `NOT_POSSIBLE` | " + FrozenDistricts.NOT_POSSIBLE + " |",
            "| `NONE` | " + FrozenDistricts.NONE + " |");
        for (String row : rows) {
            Check.isTrue("README: the row " + row, told.contains(row));
        }
    }

    // "`propose` answers -11, -12 or -13 for a draft that is no cut", "`draft` answers -1 also for "none"", "count(4)", "count(5)"
    private static void refusals() {
        FrozenDistricts x = new FrozenDistricts();
        Check.due("README: a cell has no part", x.propose(), -11);
        x.snake(false);
        x.trade(0, 35);
        Check.due("README: a part is not connected", x.propose(), -13);
        Check.due("README: the part before", x.draft(0, 0), 3);
        Check.due("README: another size", x.propose(), -12);
        x.draft(0, -1);
        Check.due("README: no part before", x.draft(0, 0), -1);
        Check.due("README: the fault of the text", x.readVotes(0), -100);
        Check.write(x, "53,07");
        Check.due("README: a text", x.readVotes(0), 2);
        Check.due("README: to cut", x.count(4), 0);
        Check.due("README: who has to cut", x.count(5), 0);
        x.snake(true);
        x.propose();
        Check.due("README: to freeze", x.count(4), 1);
        Check.due("README: who has to freeze", x.count(5), 1);
    }

    private static void tests(String told) throws IOException {
        Set<String> names = new TreeSet<>();
        try (Stream<Path> files = Files.list(Path.of("src/test/java"))) {
            for (Path file : files.collect(Collectors.toList())) {
                names.addAll(found("^(\\w+Test)\\.java$", file.getFileName().toString()));
            }
        }
        Set<String> named = new TreeSet<>();
        for (String row : told.split("\n")) {
            named.addAll(found("^\\| `(\\w+Test)` \\|", row));
        }
        Check.isTrue("README: the tests that there are, not " + named, named.equals(names));
        String command = block(told, "");
        Check.isTrue("README: one command runs them", command.strip().lines().count() == 1);
        Check.isTrue("README: it can be run: " + command, Files.isExecutable(Path.of(command.strip())));
    }

    /** The text of the first fenced block of a kind. */
    private static String block(String page, String kind) {
        Matcher matcher = Pattern.compile("(?ms)^```" + kind + "\n(.*?)^```$").matcher(page);
        Check.isTrue("README: a block '" + kind + "'", matcher.find());
        return matcher.reset().find() ? matcher.group(1) : "";
    }

    private static String between(String page, String from, String to) {
        int start = page.indexOf(from);
        int end = to == null ? page.length() : page.indexOf(to);
        Check.isTrue("README: the section " + from, start >= 0 && start < end);
        return start >= 0 && start < end ? page.substring(start, end) : "";
    }

    private static Set<String> found(String pattern, String text) {
        Set<String> found = new TreeSet<>();
        Matcher matcher = Pattern.compile(pattern).matcher(text);
        while (matcher.find()) {
            found.add(matcher.group(1));
        }
        return found;
    }
}
