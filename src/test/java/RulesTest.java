import java.io.PrintWriter;
import java.io.StringWriter;
import java.lang.management.ManagementFactory;
import java.lang.reflect.Constructor;
import java.lang.reflect.Field;
import java.lang.reflect.Method;
import java.lang.reflect.Modifier;
import java.nio.file.Files;
import java.nio.file.Path;
import java.util.ArrayList;
import java.util.Arrays;
import java.util.HashMap;
import java.util.List;
import java.util.Map;
import java.util.Set;
import java.util.TreeSet;
import java.util.regex.Matcher;
import java.util.regex.Pattern;
import java.util.spi.ToolProvider;

/** The face of the class, and those rules of LANGUAGE.md that can be seen from outside. */
public final class RulesTest {
    private static final Due DUE = new Due();
    private static final List<String> FACE = List.of("int points(int)", "int moves(int)", "int drops(int)", "int of(int)",
        "int element(int,int)", "int product(int,int)", "int sort(int,int)", "int times(int,int,int)", "int degree(int)",
        "int value(int,int)", "int spread(int,int)", "int part(int,int,int)", "int mirror(int)", "int blind(int)",
        "int within(int,int,int)", "int natural(int)", "int turned(int,int)", "int type(int)", "int clear()", "int reads()",
        "int back()", "int told(int)", "long digest()");

    public static void main(String[] args) throws Exception {
        face();
        classesInside();
        words();
        room();
        depth();
        DUE.end("RulesTest");
    }

    private static void yes(String what, boolean is) {
        DUE.is(what, is ? 1 : 0, 1);
    }

    private static void face() {
        TreeSet<String> found = new TreeSet<>();
        for (Method m : RootedClasses.class.getDeclaredMethods()) {
            if (Modifier.isPublic(m.getModifiers())) {
                String text = Arrays.toString(m.getParameterTypes()).replace("[", "(").replace("]", ")").replace(" ", "");
                found.add(m.getReturnType() + " " + m.getName() + text);
            } else {
                yes(m + " is private", Modifier.isPrivate(m.getModifiers()));
            }
        }
        yes("the public methods are " + found, found.equals(new TreeSet<>(FACE)));
        TreeSet<String> constants = new TreeSet<>();
        for (Field f : RootedClasses.class.getDeclaredFields()) {
            if (Modifier.isPublic(f.getModifiers())) {
                constants.add(f.getName());
            } else {
                yes(f + " is private", Modifier.isPrivate(f.getModifiers()));
            }
            yes(f + " is final, if static", !Modifier.isStatic(f.getModifiers()) || Modifier.isFinal(f.getModifiers()));
        }
        yes("the constants are " + constants, constants.equals(new TreeSet<>(List.of("NONE", "BAD", "NO", "FULL"))));
        Constructor<?>[] constructors = RootedClasses.class.getDeclaredConstructors();
        DUE.is("constructors", constructors.length, 1);
        yes("the constructor is public and takes nothing", constructors[0].toString().equals("public RootedClasses()"));
        yes("the class is final", Modifier.isFinal(RootedClasses.class.getModifiers()));
    }

    private static void classesInside() {
        TreeSet<String> publicNames = new TreeSet<>();
        for (String line : FACE) {
            publicNames.add(line.substring(line.indexOf(' ') + 1, line.indexOf('(')));
        }
        List<Class<?>> all = new ArrayList<>(List.of(RootedClasses.class.getDeclaredClasses()));
        yes("at most twelve classes", all.size() < 12);
        for (Class<?> c : all) {
            yes(c + " is static", Modifier.isStatic(c.getModifiers()));
            yes(c + " is not public", !Modifier.isPublic(c.getModifiers()) && !Modifier.isProtected(c.getModifiers()));
            for (Method m : c.getDeclaredMethods()) {
                yes(m + " bears no public name", !publicNames.contains(m.getName()));
            }
        }
        all.add(RootedClasses.class);
        for (Class<?> c : all) {
            long fields = Arrays.stream(c.getDeclaredFields()).filter(f -> !Modifier.isStatic(f.getModifiers())).count();
            yes(c + " has few fields", fields <= 20);
            for (Method m : c.getDeclaredMethods()) {
                yes(m + " takes few", m.getParameterCount() <= 7);
            }
        }
    }

    private static void words() throws Exception {
        String source = Files.readString(Path.of("src/main/java/RootedClasses.java"));
        yes("signs are 1 to 127", source.chars().allMatch(c -> c > 0 && c < 128));
        String code = source.replaceAll("(?s)/\\*.*?\\*/", "").replaceAll("//[^\n]*", "");
        Matcher wrong = Pattern.compile("\\b(throw|throws|try|catch|synchronized|assert|package|native|volatile)\\b"
            + "|->|::|Exact\\b|System\\.(?!arraycopy)|@").matcher(code);
        while (wrong.find()) {
            yes("no " + wrong.group(), false);
        }
        Matcher imports = Pattern.compile("import\\s+([\\w.]+)").matcher(code);
        while (imports.find()) {
            yes("import of " + imports.group(1), List.of("java.util.Arrays", "java.util.ArrayList", "java.util.List").contains(imports.group(1)));
        }
        int from = 0;
        String[] lines = source.split("\n");
        for (int k = 0; k < lines.length; k++) {
            yes("line " + (k + 1) + " is short", lines[k].length() <= 120);
            if (lines[k].matches("( {4}| {8})\\S.*\\) \\{")) {
                from = k;
            }
            if (lines[k].matches("( {4}| {8})\\}")) {
                yes("the method up to line " + (k + 1) + " is short", k - from < 60 || lines[k].startsWith("    }"));
            }
        }
    }

    /** Rule 11: no chain of calls, the public one at its head, is longer than eight. */
    private static void depth() {
        List<String> files = new ArrayList<>(List.of("-p", "-c", "-cp", System.getProperty("java.class.path"), "RootedClasses"));
        for (Class<?> c : RootedClasses.class.getDeclaredClasses()) {
            files.add(c.getName());
        }
        StringWriter told = new StringWriter();
        ToolProvider javap = ToolProvider.findFirst("javap").orElse(null);
        if (javap == null) {
            return;
        }
        javap.run(new PrintWriter(told), new PrintWriter(told), files.toArray(new String[0]));
        Map<String, Set<String>> calls = new HashMap<>();
        String in = "";
        String from = "";
        Pattern head = Pattern.compile("^  \\S.*?([\\w$]+)\\(.*\\);$");
        Pattern call = Pattern.compile("Method (?:([\\w$]+)\\.)?\"?([\\w<>]+)\"?:\\(");
        for (String line : told.toString().split("\\R")) {
            Matcher begins = Pattern.compile("class (RootedClasses[\\w$]*).* \\{$").matcher(line);
            Matcher heads = head.matcher(line);
            Matcher goes = call.matcher(line);
            if (begins.find()) {
                in = begins.group(1);
            } else if (heads.find()) {
                from = in + "." + (heads.group(1).equals(in) ? "<init>" : heads.group(1));
                calls.put(from, new TreeSet<>());
            } else if (goes.find() && calls.containsKey(from)) {
                calls.get(from).add((goes.group(1) == null ? in : goes.group(1)) + "." + goes.group(2));
            }
        }
        yes("calls are found", calls.containsKey("RootedClasses.digest") && !calls.get("RootedClasses.digest").isEmpty());
        for (String name : calls.keySet()) {
            int longest = longest(calls, name, 0);
            yes(name + " goes " + longest + " deep", longest <= 8);
        }
    }

    private static int longest(Map<String, Set<String>> calls, String name, int above) {
        int longest = above + 1;
        if (above < 20 && calls.containsKey(name)) {
            for (String next : calls.get(name)) {
                longest = Math.max(longest, longest(calls, next, above + 1));
            }
        }
        return longest;
    }

    /** All calls live in one room: what 512 of the dearest calls make must stay small. */
    private static void room() {
        com.sun.management.ThreadMXBean bean = (com.sun.management.ThreadMXBean) ManagementFactory.getThreadMXBean();
        long id = Thread.currentThread().getId();
        dearRun(new RootedClasses());
        long before = bean.getThreadAllocatedBytes(id);
        RootedClasses x = new RootedClasses();
        long made = bean.getThreadAllocatedBytes(id);
        dearRun(x);
        long after = bean.getThreadAllocatedBytes(id);
        yes("a new object takes " + (made - before) + " bytes", made - before < 30000);
        yes("its calls take " + (after - made) + " bytes", after - made < 2000);
    }

    private static void dearRun(RootedClasses x) {
        for (int k = 0; k < 60; k++) {
            x.points(5);
            x.moves(12340);
            x.moves(10234);
            x.digest();
            x.type(32);
            x.reads();
            x.back();
            x.within(1, 1, 1);
        }
    }
}
