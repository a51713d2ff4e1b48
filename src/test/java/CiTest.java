import java.io.IOException;
import java.nio.file.Files;
import java.nio.file.Path;
import java.util.ArrayList;
import java.util.Comparator;
import java.util.List;
import java.util.stream.Stream;

/** .ci/run on small projects of its own: it passes where all is well and fails by each thing that is not. */
public final class CiTest {
    private static final Due DUE = new Due();
    private static final Path SCRIPT = Path.of(".ci/run");
    private static final String CLASS = "src/main/java/RootedClasses.java";
    private static final String OWN = "src/test/java/SmallTest.java";
    private static final String SHARED = "../shared/tests/SmallRuns.java";

    /** All are begun before the first is waited for. */
    private static final List<Case> BEGUN = new ArrayList<>();

    private record Case(String name, boolean passes, Path project, Process run) {
    }

    private interface Change {
        void on(Path project) throws IOException;
    }

    public static void main(String[] args) throws Exception {
        Path room = Files.createTempDirectory("ci");
        try {
            begin(room, "all well", true, p -> { });
            begin(room, "two of each", true, p -> {
                write(p, "src/test/java/MoreTest.java", program("MoreTest", 0));
                write(p, "../shared/tests/MoreRuns.java", program("MoreRuns", 0));
            });
            begin(room, "a test of the project fails", false, p -> write(p, OWN, program("SmallTest", 1)));
            begin(room, "a test of the project fails, a later one passes", false, p -> {
                write(p, OWN, program("SmallTest", 1));
                write(p, "src/test/java/TinyTest.java", program("TinyTest", 0));
            });
            begin(room, "a test of the project throws", false,
                p -> write(p, OWN, program("SmallTest", 0).replace("System", "if (args != null) throw new IllegalStateException(); System")));
            begin(room, "a test of the project does not compile", false, p -> write(p, OWN, "public final class SmallTest {"));
            begin(room, "a shared test fails", false, p -> write(p, SHARED, program("SmallRuns", 1)));
            begin(room, "a shared test fails, a later one passes", false, p -> {
                write(p, SHARED, program("SmallRuns", 1));
                write(p, "../shared/tests/TinyRuns.java", program("TinyRuns", 0));
            });
            begin(room, "a shared test does not compile", false, p -> write(p, SHARED, "public final class SmallRuns {"));
            begin(room, "there is no shared test", false, p -> Files.delete(p.resolve(SHARED)));
            begin(room, "there is no test of the project", false, p -> Files.delete(p.resolve(OWN)));
            begin(room, "the class does not compile", false, p -> write(p, CLASS, "public final class RootedClasses {"));
            begin(room, "there is no class", false, p -> Files.delete(p.resolve(CLASS)));
            for (Case begun : BEGUN) {
                judge(begun);
            }
        } finally {
            remove(room);
        }
        DUE.end("CiTest");
    }

    private static void begin(Path room, String name, boolean passes, Change change) throws Exception {
        Path project = Files.createTempDirectory(room, "case").resolve("main");
        write(project, CLASS, "public final class RootedClasses {\n    public RootedClasses() {\n    }\n}\n");
        write(project, OWN, program("SmallTest", 0));
        write(project, SHARED, program("SmallRuns", 0));
        Files.createDirectories(project.resolve(".ci"));
        Files.copy(SCRIPT, project.resolve(SCRIPT));
        change.on(project);
        // from elsewhere: the script must find its project by itself
        Process run = new ProcessBuilder("bash", project.resolve(SCRIPT).toString()).directory(room.toFile())
            .redirectErrorStream(true).redirectOutput(project.resolve("told").toFile()).start();
        BEGUN.add(new Case(name, passes, project, run));
    }

    private static void judge(Case begun) throws Exception {
        boolean passed = begun.run.waitFor() == 0;
        if (passed != begun.passes) {
            System.out.println(Files.readString(begun.project.resolve("told")));
        }
        DUE.is(begun.name, passed ? 1 : 0, begun.passes ? 1 : 0);
    }

    private static String program(String name, int exit) {
        return "public final class " + name + " {\n    public static void main(String[] args) {\n"
            + "        new RootedClasses();\n        System.exit(" + exit + ");\n    }\n}\n";
    }

    private static void write(Path project, String name, String text) throws IOException {
        Path file = project.resolve(name).normalize();
        Files.createDirectories(file.getParent());
        Files.writeString(file, text);
    }

    private static void remove(Path room) throws IOException {
        try (Stream<Path> all = Files.walk(room)) {
            for (Path path : all.sorted(Comparator.reverseOrder()).toList()) {
                Files.delete(path);
            }
        }
    }
}
