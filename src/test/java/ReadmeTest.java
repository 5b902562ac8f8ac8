import java.io.ByteArrayOutputStream;
import java.io.IOException;
import java.io.InputStream;
import java.lang.reflect.Method;
import java.lang.reflect.Modifier;
import java.nio.charset.StandardCharsets;
import java.nio.file.Files;
import java.nio.file.Path;
import java.util.ArrayList;
import java.util.Comparator;
import java.util.List;
import java.util.Set;
import java.util.TreeSet;
import java.util.regex.Matcher;
import java.util.regex.Pattern;
import java.util.stream.Stream;

/** README.md is true: its run prints what it shows, its commands work, its tables have every call and every test. */
public final class ReadmeTest {
    private static final String CLASS = "src/main/java/FareClock.java";
    private final String readme;
    private final Path work;

    private ReadmeTest(String readme, Path work) {
        this.readme = readme;
        this.work = work;
    }

    public static void main(String[] args) throws IOException, InterruptedException {
        Path work = Files.createTempDirectory("readme");
        try {
            ReadmeTest test = new ReadmeTest(Files.readString(Path.of("README.md")), work);
            test.exampleWorks();
            test.commandsWork();
            test.tablesAreWhole();
        } finally {
            remove(work);
        }
        Bench.close();
    }

    private void exampleWorks() throws IOException, InterruptedException {
        List<String> programs = blocks("java");
        List<String> printed = blocks("text");
        same("programs and what they print", programs.size() + " " + printed.size(), "1 1");
        Path source = work.resolve("Example.java");
        Files.writeString(source, programs.get(0));
        String classes = work.resolve("example").toString();
        same("compiling the run", run("javac", "-d", classes, CLASS, source.toString()), "exit 0\n");
        same("what the run prints", run("java", "-cp", classes, "Example"), printed.get(0) + "exit 0\n");
    }

    /** The commands write below out; here they do so below a directory that is removed again. */
    private void commandsWork() throws IOException, InterruptedException {
        List<String> commands = blocks("sh");
        same("blocks of commands", String.valueOf(commands.size()), "2");
        for (String block : commands) {
            String got = run("sh", "-e", "-c", block.replaceAll("\\bout/", Matcher.quoteReplacement(work + "/")));
            if (!got.endsWith("exit 0\n")) {
                Bench.fail("README: commands", block + got);
            }
        }
    }

    private void tablesAreWhole() throws IOException {
        Set<String> calls = new TreeSet<>();
        for (Method method : FareClock.class.getDeclaredMethods()) {
            if (Modifier.isPublic(method.getModifiers())) {
                calls.add(method.getName());
            }
        }
        same("the table of calls", firstColumn("calls", "`(\\w+)`").toString(), calls.toString());
        Set<String> tests = new TreeSet<>();
        try (Stream<Path> files = Files.list(Path.of("src/test/java"))) {
            files.map(file -> file.getFileName().toString()).filter(name -> name.endsWith("Test.java"))
                .forEach(name -> tests.add(name.substring(0, name.length() - ".java".length())));
        }
        same("the table of tests", firstColumn("test", "(\\w+)").toString(), tests.toString());
    }

    private List<String> blocks(String language) {
        List<String> found = new ArrayList<>();
        Matcher block = Pattern.compile("(?ms)^```" + language + "\n(.*?)^```$").matcher(readme);
        while (block.find()) {
            found.add(block.group(1));
        }
        return found;
    }

    /** All words of the first column of the table with this heading. */
    private Set<String> firstColumn(String heading, String word) {
        Set<String> found = new TreeSet<>();
        Matcher rows = Pattern.compile("(?m)^\\| " + heading + " \\|.*\n\\|[-|]+\n((?:\\|.*\n)+)").matcher(readme);
        if (!rows.find()) {
            return found;
        }
        for (String row : rows.group(1).split("\n")) {
            Matcher words = Pattern.compile(word).matcher(row.split("\\|")[1]);
            while (words.find()) {
                found.add(words.group(1));
            }
        }
        return found;
    }

    /** What a command printed, and how it ended; what it says beside that, such as a machine's own remarks, is passed on. */
    private static String run(String... command) throws IOException, InterruptedException {
        Process process = new ProcessBuilder(command).redirectError(ProcessBuilder.Redirect.INHERIT).start();
        ByteArrayOutputStream printed = new ByteArrayOutputStream();
        try (InputStream from = process.getInputStream()) {
            from.transferTo(printed);
        }
        return printed.toString(StandardCharsets.UTF_8) + "exit " + process.waitFor() + "\n";
    }

    private static void remove(Path directory) throws IOException {
        List<Path> all;
        try (Stream<Path> files = Files.walk(directory)) {
            all = files.sorted(Comparator.reverseOrder()).toList();
        }
        for (Path file : all) {
            Files.delete(file);
        }
    }

    private static void same(String title, String got, String due) {
        if (!got.equals(due)) {
            Bench.fail("README: " + title, got + " but due is " + due);
        }
    }
}
