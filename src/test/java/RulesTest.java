import java.lang.management.ManagementFactory;
import java.lang.reflect.Constructor;
import java.lang.reflect.Field;
import java.lang.reflect.Method;
import java.lang.reflect.Modifier;
import java.util.Arrays;
import java.util.List;
import java.util.TreeSet;

/** The face of the class, and the room that an object and its calls take; SourceTest reads the other rules. */
public final class RulesTest {
    private static final Due DUE = new Due();
    private static final List<String> FACE = List.of("int points(int)", "int moves(int)", "int drops(int)", "int of(int)",
        "int element(int,int)", "int product(int,int)", "int sort(int,int)", "int times(int,int,int)", "int degree(int)",
        "int value(int,int)", "int spread(int,int)", "int part(int,int,int)", "int mirror(int)", "int blind(int)",
        "int within(int,int,int)", "int natural(int)", "int turned(int,int)", "int type(int)", "int clear()", "int reads()",
        "int back()", "int told(int)", "long digest()");

    public static void main(String[] args) {
        face();
        room();
        DUE.end("RulesTest");
    }

    private static void yes(String what, boolean is) {
        DUE.is(what, is ? 1 : 0, 1);
    }

    private static void face() {
        TreeSet<String> found = new TreeSet<>();
        for (Method m : RootedClasses.class.getDeclaredMethods()) {
            if (Modifier.isPublic(m.getModifiers())) {
                String text = Arrays.toString(m.getParameterTypes()).replace("[", "(").replace("]", ")").replace(" ", "");
                found.add(m.getReturnType() + " " + m.getName() + text);
            } else {
                yes(m + " is private", Modifier.isPrivate(m.getModifiers()));
            }
        }
        yes("the public methods are " + found, found.equals(new TreeSet<>(FACE)));
        TreeSet<String> constants = new TreeSet<>();
        for (Field f : RootedClasses.class.getDeclaredFields()) {
            if (Modifier.isPublic(f.getModifiers())) {
                constants.add(f.getName());
            } else {
                yes(f + " is private", Modifier.isPrivate(f.getModifiers()));
            }
            yes(f + " is final, if static", !Modifier.isStatic(f.getModifiers()) || Modifier.isFinal(f.getModifiers()));
        }
        yes("the constants are " + constants, constants.equals(new TreeSet<>(List.of("NONE", "BAD", "NO", "FULL"))));
        Constructor<?>[] constructors = RootedClasses.class.getDeclaredConstructors();
        DUE.is("constructors", constructors.length, 1);
        yes("the constructor is public and takes nothing", constructors[0].toString().equals("public RootedClasses()"));
        yes("the class is final", Modifier.isFinal(RootedClasses.class.getModifiers()));
    }

    /** All calls live in one room: what 512 of the dearest calls make must stay small. */
    private static void room() {
        com.sun.management.ThreadMXBean bean = (com.sun.management.ThreadMXBean) ManagementFactory.getThreadMXBean();
        long id = Thread.currentThread().getId();
        dearRun(new RootedClasses());
        long before = bean.getThreadAllocatedBytes(id);
        RootedClasses x = new RootedClasses();
        long made = bean.getThreadAllocatedBytes(id);
        dearRun(x);
        long after = bean.getThreadAllocatedBytes(id);
        yes("a new object takes " + (made - before) + " bytes", made - before < 30000);
        yes("its calls take " + (after - made) + " bytes", after - made < 2000);
    }

    private static void dearRun(RootedClasses x) {
        for (int k = 0; k < 60; k++) {
            x.points(5);
            x.moves(12340);
            x.moves(10234);
            x.digest();
            x.type(32);
            x.reads();
            x.back();
            x.within(1, 1, 1);
        }
    }
}
