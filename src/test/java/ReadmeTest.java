import java.io.IOException;
import java.lang.reflect.Method;
import java.lang.reflect.Modifier;
import java.nio.charset.StandardCharsets;
import java.nio.file.Files;
import java.nio.file.Path;
import java.util.ArrayList;
import java.util.Comparator;
import java.util.List;
import java.util.TreeSet;
import java.util.regex.Matcher;
import java.util.regex.Pattern;
import java.util.stream.Stream;

/** What README.md says works: its commands in a copy of the checkout, and the names that it tells. */
public final class ReadmeTest {
    private static final Path README = Path.of("README.md");
    private static final Path TESTS = Path.of("src/test/java");
    private static final Path SHARED = Path.of("../shared");
    /** The one command that is not run here: it runs this test. */
    private static final String ALL_TESTS = ".ci/run";
    private static final Pattern BLOCK = Pattern.compile("(?ms)^```(\\w+)\\n(.*?)^```$");
    private static final Pattern MAIN_CLASS = Pattern.compile("public final class (\\w+)");
    private static final Pattern TEST = Pattern.compile("`(\\w+Test)`");

    private static final List<String> faults = new ArrayList<>();

    private ReadmeTest() {
    }

    public static void main(String[] args) throws IOException, InterruptedException {
        String readme = Files.readString(README);
        seesBlocks(readme);
        seesCalls(readme);
        seesTests(readme);
        faults.forEach(System.out::println);
        System.out.println("ReadmeTest: " + faults.size() + " faults");
        System.exit(faults.isEmpty() ? 0 : 1);
    }

    private static void due(boolean holds, String fault) {
        if (!holds) {
            faults.add(fault);
        }
    }

    private static void seesBlocks(String readme) throws IOException, InterruptedException {
        Path room = Files.createTempDirectory("readme");
        try {
            Path copy = room.resolve("main");
            copyAll(Path.of("src"), copy.resolve("src"));
            Files.copy(README, copy.resolve("README.md"));
            Files.createSymbolicLink(room.resolve("shared"), SHARED.toRealPath());
            runBlocks(readme, copy);
        } finally {
            deleteAll(room);
        }
    }

    /** Java is saved, commands are run, and a text is what the commands before it printed. */
    private static void runBlocks(String readme, Path copy) throws IOException, InterruptedException {
        String printed = "";
        int texts = 0;
        boolean tellsAllTests = false;
        Matcher block = BLOCK.matcher(readme);
        while (block.find()) {
            String kind = block.group(1);
            String text = block.group(2);
            if (kind.equals("java")) {
                Matcher name = MAIN_CLASS.matcher(text);
                due(name.find(), "no class to save: " + text);
                Files.writeString(copy.resolve(name.group(1) + ".java"), text);
            } else if (kind.equals("text")) {
                texts++;
                due(printed.equals(text), "README.md says\n" + text + "but it is\n" + printed);
            } else if (text.strip().equals(ALL_TESTS)) {
                tellsAllTests = true;
            } else {
                due(kind.equals("sh"), "neither java, text nor sh: " + kind);
                printed = run(text, copy);
            }
        }
        due(texts > 0, "no text that the example prints");
        due(tellsAllTests && Files.isExecutable(Path.of(ALL_TESTS)), "how to run all tests is not told, or does not work");
    }

    private static String run(String commands, Path where) throws IOException, InterruptedException {
        Process process = new ProcessBuilder("sh", "-e", "-c", commands).directory(where.toFile())
            .redirectError(ProcessBuilder.Redirect.INHERIT).start();
        process.getOutputStream().close();
        String printed = new String(process.getInputStream().readAllBytes(), StandardCharsets.UTF_8);
        int code = process.waitFor();
        due(code == 0 && !printed.isEmpty(), "exit code " + code + ":\n" + commands + printed);
        return printed;
    }

    private static void seesCalls(String readme) {
        for (Method one : ClaimBus.class.getDeclaredMethods()) {
            if (Modifier.isPublic(one.getModifiers())) {
                due(readme.contains("\n| `" + one.getName() + "("), "a call that is not told: " + one);
            }
        }
    }

    private static void seesTests(String readme) throws IOException {
        TreeSet<String> told = new TreeSet<>();
        Matcher test = TEST.matcher(readme);
        while (test.find()) {
            told.add(test.group(1));
        }
        TreeSet<String> there = new TreeSet<>();
        try (Stream<Path> files = Files.list(TESTS)) {
            files.map(file -> file.getFileName().toString()).filter(name -> name.endsWith("Test.java"))
                .forEach(name -> there.add(name.replace(".java", "")));
        }
        due(told.equals(there), "tests told: " + told + ", there: " + there);
    }

    private static void copyAll(Path from, Path to) throws IOException {
        try (Stream<Path> all = Files.walk(from)) {
            for (Path one : (Iterable<Path>) all::iterator) {
                Path copied = to.resolve(from.relativize(one).toString());
                Files.createDirectories(copied.getParent());
                Files.copy(one, copied);
            }
        }
    }

    private static void deleteAll(Path room) throws IOException {
        try (Stream<Path> all = Files.walk(room)) {
            for (Path one : (Iterable<Path>) all.sorted(Comparator.reverseOrder())::iterator) {
                Files.delete(one);
            }
        }
    }
}
