import java.util.ArrayList;
import java.util.List;

/**
 * Looks at a call that must change nothing, beside a twin: an object that was made by the same calls
 * but is spared that one. Each probe has new twins, so that no object comes near its 512th call.
 */
final class Twins {
    /** What brings a new object to where the call is made. */
    interface Before {
        void on(RootedClasses x);
    }

    interface Call {
        long on(RootedClasses x);
    }

    private interface Probe {
        List<Long> of(RootedClasses x);
    }

    private static final int COUNTS = 3;
    private static final int TOLD = 7;

    private final Due due;
    private final Probe[] probes;

    Twins(Due due) {
        this.due = due;
        probes = new Probe[] {Twins::toldBehindCounts, Twins::elements, this::sortsAndRows, Twins::text, Twins::emptied,
            Twins::states, x -> generators(x, 0), x -> generators(x, 1), x -> generators(x, 2)};
    }

    /** The call is refused, which counts once, where it should; nothing else changes. */
    void refused(String name, Before before, Call call, int why) {
        look(name, before, call, why, RootedClasses.BAD - why);
    }

    /** The call answers and changes nothing at all. */
    void harmless(String name, Before before, Call call, long answer) {
        look(name, before, call, answer, -1);
    }

    private void look(String name, Before before, Call call, long answer, int counted) {
        RootedClasses x = new RootedClasses();
        before.on(x);
        int[] counts = counts(x);
        due.is(name, call.on(x), answer);
        for (int kind = 0; kind < COUNTS; kind++) {
            due.is(name + ": told(" + kind + ") behind it", x.told(kind), counts[kind] + (kind == counted ? 1 : 0));
        }
        for (int p = 0; p < probes.length; p++) {
            RootedClasses spared = new RootedClasses();
            before.on(spared);
            RootedClasses asked = new RootedClasses();
            before.on(asked);
            call.on(asked);
            compare(name + ": probe " + p, probes[p].of(asked), probes[p].of(spared));
        }
    }

    private void compare(String name, List<Long> got, List<Long> want) {
        due.is(name + ": answers", got.size(), want.size());
        for (int k = 0; k < want.size() && k < got.size(); k++) {
            due.is(name + ": answer " + k, got.get(k), want.get(k));
        }
    }

    static int[] counts(RootedClasses x) {
        return new int[] {x.told(0), x.told(1), x.told(2)};
    }

    private static List<Long> toldBehindCounts(RootedClasses x) {
        List<Long> all = new ArrayList<>();
        for (int what = COUNTS; what < TOLD; what++) {
            all.add((long) x.told(what));
        }
        return all;
    }

    static List<Long> elements(RootedClasses x) {
        List<Long> all = new ArrayList<>();
        int order = x.of(0);
        for (int i = 0; i < order; i++) {
            all.add((long) x.element(i, 0));
        }
        return all;
    }

    /** All that digest() tells of, one by one; digest() itself has the counts in it and is reckoned here. */
    private List<Long> sortsAndRows(RootedClasses x) {
        List<Long> all = new ArrayList<>();
        for (int what = 0; what < 8; what++) {
            all.add((long) x.of(what));
        }
        int sorts = x.of(1);
        for (int i = 0; i < sorts; i++) {
            for (int what = 0; what < 6; what++) {
                all.add((long) x.sort(i, what));
            }
        }
        for (int r = 0; r < sorts; r++) {
            all.add((long) x.degree(r));
            for (int i = 0; i < sorts; i++) {
                all.add((long) x.value(r, i));
            }
            all.add((long) x.mirror(r));
        }
        long h = 2447;
        for (int what = 0; what < TOLD; what++) {
            h = 31 * h + x.told(what);
        }
        for (long v : all) {
            h = 31 * h + v;
        }
        due.is("digest beside its parts", x.digest(), h);
        return all;
    }

    private static List<Long> text(RootedClasses x) {
        List<Long> all = new ArrayList<>();
        for (int more : new int[] {' ', '0', ';'}) {
            all.add((long) x.reads());
            all.addAll(toldBehindCounts(x));
            all.add((long) x.type(more));
        }
        all.add((long) x.reads());
        all.addAll(elements(x));
        return all;
    }

    private static List<Long> emptied(RootedClasses x) {
        List<Long> all = new ArrayList<>();
        all.add((long) x.clear());
        all.addAll(toldBehindCounts(x));
        return all;
    }

    private static List<Long> states(RootedClasses x) {
        List<Long> all = new ArrayList<>();
        int count = x.told(6);
        for (int s = 0; s <= count; s++) {
            all.add((long) x.back());
            all.addAll(toldBehindCounts(x));
            all.add((long) x.of(0));
            all.add((long) x.element(x.of(0) - 1, 0));
        }
        return all;
    }

    /** What the GENERATORS make without the first of them, without the first two, with the first alone. */
    private static List<Long> generators(RootedClasses x, int which) {
        List<Long> all = new ArrayList<>();
        int count = x.told(5);
        int from = which < 2 ? 0 : 1;
        int gone = which < 2 ? which + 1 : count - 1;
        for (int k = 0; k < gone && k < count; k++) {
            all.add((long) x.drops(from));
        }
        all.addAll(elements(x));
        return all;
    }
}
