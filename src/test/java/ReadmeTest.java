import java.io.IOException;
import java.lang.reflect.Method;
import java.lang.reflect.Modifier;
import java.nio.file.Files;
import java.nio.file.Path;
import java.util.ArrayList;
import java.util.Comparator;
import java.util.List;
import java.util.concurrent.TimeUnit;
import java.util.regex.Matcher;
import java.util.regex.Pattern;
import java.util.stream.Stream;

/**
 * What README.md shows holds: its commands are run in a copy of the project that has only the
 * sources, with ../shared beside it, and its program prints what stands there.
 */
public final class ReadmeTest {
    private static final Path README = Path.of("README.md");
    private static final Path SOURCES = Path.of("src");
    private static final Path SHARED = Path.of("../shared");
    private static final String ALL_TESTS = ".ci/run\n";
    private static final int LONGEST_SECONDS = 300;
    private static final String[] FINDINGS = {
        "BEYOND | -1", "MISSING | -2", "SIZE | -3", "KIND | -4", "FULL | -5", "NONE | -6", "STICKS | -7", "LONG | -8"
    };

    private static int wrong = 0;

    private static void due(String what, boolean holds) {
        if (!holds) {
            wrong++;
            System.out.println("not as due: " + what);
        }
    }

    public static void main(String[] args) throws IOException, InterruptedException {
        String text = Files.readString(README);
        callsAreNamed(text);
        findingsAreNamed(text);
        Path room = Files.createTempDirectory("readme");
        try {
            Path project = copyInto(room);
            example(text, project);
            commands(text, project);
        } finally {
            remove(room);
        }
        System.out.println(wrong == 0 ? "README.md is as due" : wrong + " not as due");
        if (wrong != 0) {
            System.exit(1);
        }
    }

    private static void callsAreNamed(String text) {
        for (Method method : LaneNets.class.getDeclaredMethods()) {
            if (Modifier.isPublic(method.getModifiers())) {
                due("README.md names " + method.getName(), text.contains("`" + method.getName() + "`"));
            }
        }
    }

    private static void findingsAreNamed(String text) {
        for (String finding : FINDINGS) {
            due("README.md tells " + finding, text.contains("| " + finding + " |"));
        }
    }

    private static List<String> blocks(String text, String kind) {
        List<String> blocks = new ArrayList<>();
        Matcher matcher = Pattern.compile("(?ms)^```" + kind + "\n(.*?)^```$").matcher(text);
        while (matcher.find()) {
            blocks.add(matcher.group(1));
        }
        return blocks;
    }

    private static Path copyInto(Path room) throws IOException {
        Path project = Files.createDirectory(room.resolve("project"));
        Files.createSymbolicLink(room.resolve("shared"), SHARED.toRealPath());
        try (Stream<Path> files = Files.walk(SOURCES)) {
            for (Path file : (Iterable<Path>) files::iterator) {
                Files.copy(file, project.resolve(file.toString()));
            }
        }
        return project;
    }

    /** The first commands are those of the program, the first text is what it prints. */
    private static void example(String text, Path project) throws IOException, InterruptedException {
        List<String> programs = blocks(text, "java");
        List<String> prints = blocks(text, "text");
        List<String> commands = blocks(text, "sh");
        boolean whole = programs.size() == 1 && prints.size() == 1 && !commands.isEmpty();
        due("one program, what it prints and commands", whole);
        if (!whole) {
            return;
        }
        Files.createDirectory(project.resolve("build"));
        Files.writeString(project.resolve("build/Example.java"), programs.get(0));
        String printed = printedBy(commands.get(0), project);
        due("the program prints\n" + printed, printed.equals(prints.get(0)));
    }

    /** All but the run of all tests, in which this one would be run again. */
    private static void commands(String text, Path project) throws IOException, InterruptedException {
        List<String> commands = blocks(text, "sh");
        due("the run of all tests is told", commands.contains(ALL_TESTS));
        int run = 0;
        for (String block : commands) {
            if (!block.equals(ALL_TESTS)) {
                printedBy(block, project);
                run++;
            }
        }
        due("commands of the program, of one test and of one shared test", run == 3);
    }

    /** What goes to the error stream is left out: the machine itself may write there. */
    private static String printedBy(String block, Path project) throws IOException, InterruptedException {
        Path printed = project.resolve("printed.txt");
        Path errors = project.resolve("errors.txt");
        Process process = new ProcessBuilder("sh", "-e", "-c", block).directory(project.toFile())
            .redirectOutput(printed.toFile()).redirectError(errors.toFile()).start();
        boolean ended = process.waitFor(LONGEST_SECONDS, TimeUnit.SECONDS);
        if (!ended) {
            process.destroyForcibly().waitFor();
        }
        String text = Files.readString(printed);
        boolean passed = ended && process.exitValue() == 0;
        due("ends with 0:\n" + block + text + Files.readString(errors), passed);
        return text;
    }

    private static void remove(Path room) throws IOException {
        try (Stream<Path> files = Files.walk(room)) {
            for (Path file : files.sorted(Comparator.reverseOrder()).toList()) {
                Files.delete(file);
            }
        }
    }
}
