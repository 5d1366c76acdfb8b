import java.io.IOException;
import java.lang.reflect.Method;
import java.lang.reflect.Modifier;
import java.nio.charset.StandardCharsets;
import java.nio.file.Files;
import java.nio.file.Path;
import java.util.ArrayList;
import java.util.Comparator;
import java.util.List;
import java.util.Set;
import java.util.TreeSet;
import java.util.regex.Matcher;
import java.util.regex.Pattern;
import java.util.stream.Collectors;
import java.util.stream.Stream;

/** What README.md says is so: its program, its commands and what they print, its calls, constants and files. */
public final class ReadmeTest {
    private static final Due DUE = new Due("ReadmeTest");
    private static final Path TESTS = Path.of("src/test/java");
    private static final String ALL_TESTS = ".ci/run\n";
    private static final Pattern BLOCK = Pattern.compile("(?ms)^```(\\w*)\n(.*?)^```$");

    private ReadmeTest() { }

    public static void main(String[] args) throws IOException, InterruptedException {
        String readme = Files.readString(Path.of("README.md"), StandardCharsets.UTF_8);
        commands(readme);
        program(readme);
        calls(readme);
        constants(readme);
        files(readme);
        tests(readme);
        DUE.end();
    }

    private static void holds(String what, boolean so) {
        DUE.is(what, so ? 1 : 0, 1);
    }

    /** A block of text behind one of commands is what these print. */
    private static void commands(String readme) throws IOException, InterruptedException {
        Path checkout = copyOfCheckout();
        String printed = "";
        int ran = 0;
        Matcher block = BLOCK.matcher(readme);
        while (block.find()) {
            if (block.group(1).equals("sh")) {
                printed = run(block.group(2), checkout);
                ran++;
            } else if (block.group(1).equals("text")) {
                holds("is printed: " + block.group(2) + "and not: " + printed, printed.equals(block.group(2)));
            }
        }
        holds("there are commands", ran > 1);
        remove(checkout);
    }

    private static String run(String commands, Path checkout) throws IOException, InterruptedException {
        if (commands.equals(ALL_TESTS)) {
            // This test runs in there, so it is not run once more.
            holds(".ci/run can be run", Files.isExecutable(Path.of(".ci/run")));
            return "";
        }
        ProcessBuilder shell = new ProcessBuilder("sh", "-e", "-c", commands);
        Process process = shell.directory(checkout.toFile()).redirectErrorStream(true).start();
        process.getOutputStream().close();
        String printed = new String(process.getInputStream().readAllBytes(), StandardCharsets.UTF_8);
        int exit = process.waitFor();
        DUE.is("'" + commands + "' printed " + printed + "and ended, so it", exit, 0);
        return printed;
    }

    /** The commands leave their classes behind, so they run in a copy. */
    private static Path copyOfCheckout() throws IOException {
        Path checkout = Files.createTempDirectory("readme");
        for (String part : List.of("README.md", "src")) {
            for (Path from : filesBelow(Path.of(part))) {
                Path to = checkout.resolve(from);
                Files.createDirectories(to.getParent());
                Files.copy(from, to);
            }
        }
        return checkout;
    }

    private static List<Path> filesBelow(Path path) throws IOException {
        try (Stream<Path> below = Files.walk(path)) {
            return below.filter(Files::isRegularFile).collect(Collectors.toList());
        }
    }

    private static void remove(Path folder) throws IOException {
        try (Stream<Path> below = Files.walk(folder)) {
            for (Path path : below.sorted(Comparator.reverseOrder()).collect(Collectors.toList())) {
                Files.delete(path);
            }
        }
    }

    private static void program(String readme) throws IOException {
        String example = Files.readString(TESTS.resolve("Example.java"), StandardCharsets.UTF_8);
        List<String> programs = new ArrayList<>();
        Matcher block = BLOCK.matcher(readme);
        while (block.find()) {
            if (block.group(1).equals("java")) {
                programs.add(block.group(2));
            }
        }
        holds("the program is Example.java", programs.equals(List.of(example)));
    }

    private static void calls(String readme) {
        Set<String> told = new TreeSet<>();
        Matcher row = Pattern.compile("(?m)^\\| `(\\w+)\\((.*?)\\)` \\|").matcher(readme);
        while (row.find()) {
            told.add(row.group(1) + "(" + row.group(2).replaceAll(" \\w+(?=,|$)", "").replace(" ", "") + ")");
        }
        Set<String> there = new TreeSet<>();
        for (Method m : SlangYears.class.getDeclaredMethods()) {
            if (Modifier.isPublic(m.getModifiers())) {
                String types = Stream.of(m.getParameterTypes()).map(Class::getName).collect(Collectors.joining(","));
                there.add(m.getName() + "(" + types + ")");
            }
        }
        holds("the calls told are those that there are: " + told + " " + there, told.equals(there));
    }

    private static void constants(String readme) {
        constant(readme, "BAD", SlangYears.BAD);
        constant(readme, "STATE", SlangYears.STATE);
        constant(readme, "FULL", SlangYears.FULL);
        constant(readme, "NONE", SlangYears.NONE);
        constant(readme, "NO", SlangYears.NO);
    }

    private static void constant(String readme, String name, int value) {
        holds(name + " is told", readme.contains("\n| `" + name + "` | " + value + " |"));
    }

    /** Those of the checkout; ../shared is not its own. */
    private static void files(String readme) {
        Matcher path = Pattern.compile("`(\\.?\\w+/[\\w./]+|\\w+\\.md)`").matcher(readme);
        int told = 0;
        while (path.find()) {
            holds(path.group(1) + " is there", Files.exists(Path.of(path.group(1))));
            told++;
        }
        holds("files are told", told > 0);
    }

    private static void tests(String readme) throws IOException {
        Set<String> told = new TreeSet<>();
        Matcher row = Pattern.compile("(?m)^\\| `(\\w+Test)` \\|").matcher(readme);
        while (row.find()) {
            told.add(row.group(1));
        }
        Set<String> there = new TreeSet<>();
        for (Path file : filesBelow(TESTS)) {
            String name = file.getFileName().toString();
            if (name.endsWith("Test.java")) {
                there.add(name.replace(".java", ""));
            }
        }
        holds("the tests told are those that there are: " + told + " " + there, told.equals(there));
    }
}
