import java.util.ArrayList;
import java.util.HashSet;
import java.util.List;
import java.util.Set;
import java.util.TreeSet;

/** Promises 5 to 18 and 24 for all ELEMENTS that 0 to 3 GENERATORS of 1 to 5 POINTS can make. */
public final class EveryGroupTest {
    private static final Due DUE = new Due();
    private static final int CALLS = 512;

    /** Nothing is promised behind an object's 512th call: another takes its place in time. */
    private static final class Relay {
        private final int points;
        private final List<Integer> generators;
        private RootedClasses now;
        private int calls = CALLS;

        Relay(int points, List<Integer> generators) {
            this.points = points;
            this.generators = generators;
        }

        RootedClasses next() {
            if (calls >= CALLS) {
                now = made();
                calls = 1 + generators.size();
            }
            calls++;
            return now;
        }

        RootedClasses made() {
            RootedClasses x = new RootedClasses();
            bring(x);
            return x;
        }

        void bring(RootedClasses x) {
            x.points(points);
            for (int g : generators) {
                x.moves(g);
            }
        }
    }

    public static void main(String[] args) {
        List<Relay> groups = new ArrayList<>();
        for (int n = 1; n <= 5; n++) {
            List<Integer> all = new ArrayList<>();
            collect("", n, all);
            Set<TreeSet<String>> known = new HashSet<>();
            List<List<Integer>> fresh = new ArrayList<>();
            fresh.add(new ArrayList<>());
            known.add(Oracle.closure(n, fresh.get(0)));
            while (!fresh.isEmpty()) {
                List<List<Integer>> next = new ArrayList<>();
                for (List<Integer> generators : fresh) {
                    compare(n, generators);
                    groups.add(new Relay(n, generators));
                    if (generators.size() == 3) {
                        continue;
                    }
                    for (int g : all) {
                        List<Integer> more = new ArrayList<>(generators);
                        more.add(g);
                        if (known.add(Oracle.closure(n, more))) {
                            next.add(more);
                        }
                    }
                }
                fresh = next;
            }
        }
        // as many subgroups as there are of all moves of 1, 2, 3, 4 and 5 points
        DUE.is("groups", groups.size(), 1 + 2 + 6 + 30 + 156);
        for (Relay before : groups) {
            for (Relay behind : groups) {
                compareBehind(before, behind);
            }
        }
        DUE.end("EveryGroupTest");
    }

    private static void collect(String begun, int n, List<Integer> all) {
        if (begun.length() == n) {
            all.add(Integer.parseInt(begun));
        }
        for (int p = 0; p < n; p++) {
            if (begun.indexOf('0' + p) < 0) {
                collect(begun + p, n, all);
            }
        }
    }

    private static void compare(int n, List<Integer> generators) {
        String at = n + " " + generators + " ";
        Relay x = new Relay(n, generators);
        Oracle o = Oracle.of(n, generators);
        for (int what = 0; what < 8; what++) {
            DUE.is(at + "of " + what, x.next().of(what), o.whole(what));
        }
        compareElements(at, x, o);
        for (int i = 0; i < o.sorts; i++) {
            for (int what = 0; what < 6; what++) {
                DUE.is(at + "sort " + i + " " + what, x.next().sort(i, what), o.sortAnswer(i, what));
            }
            for (int j = 0; j < o.sorts; j++) {
                for (int k = 0; k < o.sorts; k++) {
                    DUE.is(at + "times " + i + " " + j + " " + k, x.next().times(i, j, k), o.times[i][j][k]);
                }
            }
        }
        for (int r = 0; r < o.sorts; r++) {
            compareRow(at + "row " + r + " ", x, o, r);
        }
        int[] told = {0, 0, 0, 0, n, generators.size(), 1 + generators.size()};
        DUE.is(at + "digest", x.made().digest(), o.digest(told));
    }

    /** What was reckoned before leaves no trace in what is asked behind it, nor behind back(). */
    private static void compareBehind(Relay before, Relay behind) {
        RootedClasses x = before.made();
        long first = x.digest();
        behind.bring(x);
        int count = behind.generators.size();
        int states = Math.min(5, 2 + before.generators.size() + count);
        int[] told = {0, 0, 0, 0, behind.points, count, states};
        long due = Oracle.of(behind.points, behind.generators).digest(told);
        DUE.is(behind.points + " " + behind.generators + " behind " + before.points + " " + before.generators, x.digest(), due);
        if (before.generators.size() + 2 + count <= 5) {
            for (int k = 0; k <= count; k++) {
                x.back();
            }
            DUE.is(before.points + " " + before.generators + " again", x.digest(), first);
        }
    }

    private static void compareElements(String at, Relay x, Oracle o) {
        int order = o.elements.size();
        for (int i = 0; i < order; i++) {
            for (int what = 0; what < 4; what++) {
                DUE.is(at + "element " + i + " " + what, x.next().element(i, what), o.elementAnswer(i, what));
            }
            for (int j = 0; j < order; j++) {
                DUE.is(at + "product " + i + " " + j, x.next().product(i, j), o.product(i, j));
            }
        }
    }

    private static void compareRow(String at, Relay x, Oracle o, int r) {
        DUE.is(at + "degree", x.next().degree(r), o.degree[r]);
        DUE.is(at + "mirror", x.next().mirror(r), o.mirror(r));
        DUE.is(at + "blind", x.next().blind(r), o.blind(r));
        DUE.is(at + "natural", x.next().natural(r), o.meet(o.left, o.value[r]));
        for (int i = 0; i < o.sorts; i++) {
            DUE.is(at + "value " + i, x.next().value(r, i), o.value[r][i]);
            DUE.is(at + "spread " + i, x.next().spread(r, i), o.spread[r][i]);
            int together = 0;
            for (int m = 0; m < o.turn[i]; m++) {
                int often = x.next().part(r, i, m);
                DUE.is(at + "part " + i + " " + m, often, o.part(r, i, m));
                together += often;
            }
            DUE.is(at + "parts together", together, o.degree[r]);
        }
        for (int s = 0; s < o.sorts; s++) {
            int together = 0;
            for (int t = 0; t < o.sorts; t++) {
                int often = x.next().within(r, s, t);
                DUE.is(at + "within " + s + " " + t, often, o.meet(o.rowProduct(r, s), o.value[t]));
                together += often * o.degree[t];
            }
            DUE.is(at + "within together", together, o.degree[r] * o.degree[s]);
            DUE.is(at + "turned " + s, x.next().turned(r, s), o.degree[s] == 1 ? o.turned(r, s) : RootedClasses.NO);
        }
    }
}
