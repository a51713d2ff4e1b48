import java.io.PrintWriter;
import java.lang.reflect.InvocationTargetException;
import java.net.URL;
import java.net.URLClassLoader;
import java.nio.file.Files;
import java.nio.file.Path;
import java.util.ArrayList;
import java.util.Comparator;
import java.util.List;
import java.util.TreeSet;
import java.util.regex.Matcher;
import java.util.regex.Pattern;
import java.util.spi.ToolProvider;
import java.util.stream.Stream;

/** README.md: its lines of Java compile and answer as it says; its tables name what there is. */
public final class ReadmeTest {
    private static final Due DUE = new Due();
    private static final Pattern BLOCK = Pattern.compile("(?ms)^```java\n(.*?)^```$");
    private static final Pattern ANSWERED = Pattern.compile("(x\\.\\w+\\(.*\\));\\s*// (-?\\d+)\\b.*");
    private static final Pattern IN_TABLE = Pattern.compile("(?m)^\\| `(\\w+)` \\|");

    public static void main(String[] args) throws Exception {
        String readme = Files.readString(Path.of("README.md"));
        lines(readme);
        tables(readme);
        DUE.is("README.md says how its tests are run", readme.contains("\n    .ci/run\n") ? 1 : 0, 1);
        DUE.end("ReadmeTest");
    }

    private static void lines(String readme) throws Exception {
        Path made = Files.createTempDirectory("readme");
        try {
            Matcher block = BLOCK.matcher(readme);
            int blocks = 0;
            while (block.find()) {
                blocks++;
                DUE.is("block " + blocks + " compiles as it stands", compiled(made, "Stands" + blocks, block.group(1)), 0);
                ask(made, "Asks" + blocks, block.group(1));
            }
            DUE.is("there are blocks of Java", Math.min(blocks, 1), 1);
        } finally {
            remove(made);
        }
    }

    /** Each line that tells a number is asked for it; all others are done as they stand. */
    private static void ask(Path made, String name, String block) throws Exception {
        StringBuilder body = new StringBuilder();
        List<String> calls = new ArrayList<>();
        List<Long> answers = new ArrayList<>();
        for (String line : block.split("\n")) {
            Matcher answered = ANSWERED.matcher(line);
            if (answered.matches()) {
                body.append("got.add((long) ").append(answered.group(1)).append(");\n");
                calls.add(answered.group(1));
                answers.add(Long.parseLong(answered.group(2)));
            } else {
                DUE.is("a number tells the answer: " + line, line.startsWith("x.") ? 1 : 0, 0);
                body.append(line).append('\n');
            }
        }
        if (compiled(made, name, body.toString()) != 0) {
            DUE.is(name + " compiles", 1, 0);
            return;
        }
        List<Long> got = new ArrayList<>();
        try (URLClassLoader loader = new URLClassLoader(new URL[] {made.toUri().toURL()})) {
            loader.loadClass(name).getMethod("lines", List.class).invoke(null, got);
        } catch (InvocationTargetException e) {
            DUE.is(name + " threw " + e.getCause(), 1, 0);
        }
        DUE.is(name + " answers", got.size(), answers.size());
        for (int k = 0; k < got.size(); k++) {
            DUE.is("README.md: " + calls.get(k), got.get(k), answers.get(k));
        }
    }

    private static int compiled(Path made, String name, String body) throws Exception {
        Path file = made.resolve(name + ".java");
        Files.writeString(file, "public final class " + name + " {\n"
            + "public static void lines(java.util.List<Long> got) {\n" + body + "}\n}\n");
        ToolProvider javac = ToolProvider.findFirst("javac").orElseThrow();
        return javac.run(new PrintWriter(System.out, true), new PrintWriter(System.out, true), "--release", "17",
            "-cp", System.getProperty("java.class.path"), "-d", made.toString(), file.toString());
    }

    private static void remove(Path made) throws Exception {
        try (Stream<Path> all = Files.walk(made)) {
            for (Path path : all.sorted(Comparator.reverseOrder()).toList()) {
                Files.delete(path);
            }
        }
    }

    /** The classes inside, and the tests: all of them, and no other. */
    private static void tables(String readme) throws Exception {
        TreeSet<String> named = new TreeSet<>();
        Matcher row = IN_TABLE.matcher(readme);
        while (row.find()) {
            DUE.is(row.group(1) + " is named once", named.add(row.group(1)) ? 1 : 0, 1);
        }
        TreeSet<String> there = new TreeSet<>();
        for (Class<?> inside : RootedClasses.class.getDeclaredClasses()) {
            there.add(inside.getSimpleName());
        }
        try (Stream<Path> files = Files.list(Path.of("src/test/java"))) {
            files.map(file -> file.getFileName().toString()).filter(name -> name.endsWith("Test.java"))
                .forEach(name -> there.add(name.substring(0, name.length() - 5)));
        }
        DUE.is("README.md names " + named + ", there are " + there, named.equals(there) ? 1 : 0, 1);
    }
}
