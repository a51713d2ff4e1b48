/**
 * Promises 5 to 18: for each number that a question takes the last one that is taken and the first that is
 * refused, at both ends, the least and the greatest int too; what told tells behind it, and that nothing
 * else has changed.
 */
public final class EdgeQuestionsTest {
    private static final Due DUE = new Due();
    private static final Twins TWINS = new Twins(DUE);
    private static final int BAD = RootedClasses.BAD, NO = RootedClasses.NO;

    /** A question of which all numbers but one are right. */
    private interface Question {
        int ask(RootedClasses x, int number);
    }

    private interface Answer {
        int of(int number);
    }

    public static void main(String[] args) {
        for (Place at : Place.all()) {
            sizes(at);
            of(at);
            element(at);
            product(at);
            sort(at);
            times(at);
            degree(at);
            value(at);
            spread(at);
            part(at);
            mirror(at);
            blind(at);
            within(at);
            natural(at);
            turned(at);
            countsOnce(at);
        }
        primes();
        DUE.end("EdgeQuestionsTest");
    }

    /** The number is 0 to bound less 1: both are taken, what lies beside them is not. */
    private static void edges(String name, Place at, int bound, Question question, Answer answer) {
        for (int number : new int[] {0, bound - 1}) {
            TWINS.harmless(at.name + ": " + name + " " + number, at.before, x -> question.ask(x, number), answer.of(number));
        }
        for (int number : new int[] {-1, bound, bound + 1, Integer.MIN_VALUE, Integer.MAX_VALUE}) {
            TWINS.refused(at.name + ": " + name + " " + number, at.before, x -> question.ask(x, number), BAD);
        }
    }

    private static void sizes(Place at) {
        RootedClasses x = at.made();
        DUE.is(at.name + ": N", x.told(4), at.points);
        DUE.is(at.name + ": GENERATORS", x.told(5), at.generators.size());
        DUE.is(at.name + ": ORDER", x.of(0), at.order);
        DUE.is(at.name + ": SORTS", x.of(1), at.sorts);
        for (int i = 0; i < at.sorts; i++) {
            DUE.is(at.name + ": TURN " + i, x.sort(i, 1), at.turns[i]);
            DUE.is(at.name + ": DEGREE " + i, x.degree(i), at.degrees[i]);
        }
    }

    // "ORDER (what 0) .. ROWS of DEGREE 1 (7). BAD."
    private static void of(Place at) {
        Oracle o = at.oracle();
        edges("of", at, 8, (x, n) -> x.of(n), o::whole);
        for (int what = 0; what < 8; what++) {
            DUE.is(at.name + ": of " + what + " as the first question", at.made().of(what), o.whole(what));
        }
    }

    // "ELEMENT i: its number as a MOVE (what 0) .. its TURN (3). BAD."
    private static void element(Place at) {
        Oracle o = at.oracle();
        for (int what = 0; what < 4; what++) {
            int w = what;
            edges("element i, what " + w, at, at.order, (x, n) -> x.element(n, w), n -> o.elementAnswer(n, w));
        }
        int last = at.order - 1;
        edges("element what", at, 4, (x, n) -> x.element(last, n), n -> o.elementAnswer(last, n));
    }

    // "The ELEMENT x y. BAD."
    private static void product(Place at) {
        Oracle o = at.oracle();
        int last = at.order - 1;
        edges("product x", at, at.order, (x, n) -> x.product(n, last), n -> o.product(n, last));
        edges("product y", at, at.order, (x, n) -> x.product(last, n), n -> o.product(last, n));
    }

    // "Of a SORT: SIZE (what 0) .. POINTS that are left (5). BAD."
    private static void sort(Place at) {
        Oracle o = at.oracle();
        for (int what = 0; what < 6; what++) {
            int w = what;
            edges("sort i, what " + w, at, at.sorts, (x, n) -> x.sort(n, w), n -> o.sortAnswer(n, w));
        }
        int last = at.sorts - 1;
        edges("sort what", at, 6, (x, n) -> x.sort(last, n), n -> o.sortAnswer(last, n));
    }

    // "TIMES i, j, k. BAD."
    private static void times(Place at) {
        Oracle o = at.oracle();
        int last = at.sorts - 1;
        edges("times i", at, at.sorts, (x, n) -> x.times(n, last, 0), n -> o.times[n][last][0]);
        edges("times j", at, at.sorts, (x, n) -> x.times(last, n, last), n -> o.times[last][n][last]);
        edges("times k", at, at.sorts, (x, n) -> x.times(last, last, n), n -> o.times[last][last][n]);
    }

    // "DEGREE of ROW r. BAD."
    private static void degree(Place at) {
        edges("degree", at, at.sorts, (x, n) -> x.degree(n), n -> at.degrees[n]);
    }

    // "VALUE of ROW r at SORT i. BAD."
    private static void value(Place at) {
        Oracle o = at.oracle();
        int last = at.sorts - 1;
        edges("value r", at, at.sorts, (x, n) -> x.value(n, last), n -> o.value[n][last]);
        edges("value i", at, at.sorts, (x, n) -> x.value(last, n), n -> o.value[last][n]);
    }

    // "w(i) of the SPREAD of ROW r. BAD."
    private static void spread(Place at) {
        Oracle o = at.oracle();
        int last = at.sorts - 1;
        edges("spread r", at, at.sorts, (x, n) -> x.spread(n, last), n -> o.spread[n][last]);
        edges("spread i", at, at.sorts, (x, n) -> x.spread(last, n), n -> o.spread[last][n]);
    }

    // "PART of ROW r, SORT i, m. BAD: m below 0, TURN or above, too."
    private static void part(Place at) {
        Oracle o = at.oracle();
        int last = at.sorts - 1;
        edges("part r", at, at.sorts, (x, n) -> x.part(n, last, 0), n -> o.part(n, last, 0));
        edges("part i", at, at.sorts, (x, n) -> x.part(last, n, 0), n -> o.part(last, n, 0));
        for (int sort = 0; sort < at.sorts; sort++) {
            int i = sort;
            edges("part m at SORT " + i, at, at.turns[i], (x, n) -> x.part(last, i, n), n -> o.part(last, i, n));
        }
    }

    // "MIRROR of ROW r. BAD."
    private static void mirror(Place at) {
        Oracle o = at.oracle();
        edges("mirror", at, at.sorts, (x, n) -> x.mirror(n), o::mirror);
    }

    // "BLIND of ROW r, as bits of SORTS. BAD."
    private static void blind(Place at) {
        Oracle o = at.oracle();
        edges("blind", at, at.sorts, (x, n) -> x.blind(n), o::blind);
        DUE.is(at.name + ": ROW 0 is blind at all SORTS", at.made().blind(0), (1 << at.sorts) - 1);
    }

    // "How often ROW t is in the PRODUCT of ROWS r, s. BAD."
    private static void within(Place at) {
        Oracle o = at.oracle();
        int last = at.sorts - 1;
        edges("within r", at, at.sorts, (x, n) -> x.within(n, last, 0), n -> o.meet(o.rowProduct(n, last), o.value[0]));
        edges("within s", at, at.sorts, (x, n) -> x.within(last, n, last), n -> o.meet(o.rowProduct(last, n), o.value[last]));
        edges("within t", at, at.sorts, (x, n) -> x.within(last, last, n), n -> o.meet(o.rowProduct(last, last), o.value[n]));
    }

    // "How often ROW t is in POINTS as a row. BAD."
    private static void natural(Place at) {
        Oracle o = at.oracle();
        edges("natural", at, at.sorts, (x, n) -> x.natural(n), n -> o.meet(o.left, o.value[n]));
    }

    // "The ROW that is the PRODUCT of ROW r and a ROW s of DEGREE 1. BAD; NO: DEGREE of s is not 1."
    private static void turned(Place at) {
        Oracle o = at.oracle();
        edges("turned r", at, at.sorts, (x, n) -> x.turned(n, 0), n -> o.turned(n, 0));
        int[] wrong = {-1, at.sorts, at.sorts + 1, Integer.MIN_VALUE, Integer.MAX_VALUE};
        for (int s : wrong) {
            TWINS.refused(at.name + ": turned s " + s, at.before, x -> x.turned(0, s), BAD);
        }
        for (int row = 0; row < at.sorts; row++) {
            int s = row;
            for (int r : new int[] {0, at.sorts - 1}) {
                String name = at.name + ": turned " + r + " " + s;
                if (at.degrees[s] == 1) {
                    TWINS.harmless(name, at.before, x -> x.turned(r, s), o.turned(r, s));
                } else {
                    TWINS.refused(name, at.before, x -> x.turned(r, s), NO);
                }
            }
            for (int r : wrong) {
                TWINS.refused(at.name + ": turned, BAD goes before NO", at.before, x -> x.turned(r, s), BAD);
            }
        }
    }

    // "Refused (a question, too), changing nothing but how often": a call counts once, whatever is wrong in it
    private static void countsOnce(Place at) {
        int low = Integer.MIN_VALUE;
        int high = Integer.MAX_VALUE;
        TWINS.refused(at.name + ": element", at.before, x -> x.element(-1, 4), BAD);
        TWINS.refused(at.name + ": product", at.before, x -> x.product(low, high), BAD);
        TWINS.refused(at.name + ": sort", at.before, x -> x.sort(at.sorts, 6), BAD);
        TWINS.refused(at.name + ": times", at.before, x -> x.times(-1, low, high), BAD);
        TWINS.refused(at.name + ": value", at.before, x -> x.value(high, low), BAD);
        TWINS.refused(at.name + ": spread", at.before, x -> x.spread(low, high), BAD);
        TWINS.refused(at.name + ": part", at.before, x -> x.part(-1, -1, -1), BAD);
        TWINS.refused(at.name + ": part", at.before, x -> x.part(at.sorts, at.sorts, high), BAD);
        TWINS.refused(at.name + ": within", at.before, x -> x.within(high, low, -1), BAD);
        TWINS.refused(at.name + ": turned", at.before, x -> x.turned(-1, at.sorts), BAD);
    }

    // "P: the least prime above 7, P times P above 4 times ORDER, for which EXPONENT divides P less 1."
    private static void primes() {
        // EXPONENT, the prime; 2, 3 and 7 would do for 1, 2, 3 and 6 if they were above 7
        primeOf(1, 11, 1);
        primeOf(2, 11, 2, 10);
        primeOf(3, 13, 3, 120);
        primeOf(4, 13, 4, 1230);
        primeOf(5, 11, 5, 12340);
        primeOf(6, 13, 5, 12043);
        primeOf(6, 13, 3, 120, 102);
        primeOf(10, 11, 5, 12340, 4321);
        primeOf(12, 13, 4, 1230, 1023);
        primeOf(20, 41, 5, 12340, 2413);
        primeOf(30, 31, 5, 12340, 12034);
        primeOf(60, 61, 5, 12340, 10234);
    }

    private static void primeOf(int exponent, int prime, int n, int... codes) {
        RootedClasses x = new RootedClasses();
        x.points(n);
        for (int code : codes) {
            x.moves(code);
        }
        DUE.is("EXPONENT of " + x.of(0), x.of(2), exponent);
        DUE.is("P for EXPONENT " + exponent, x.of(3), prime);
    }
}
