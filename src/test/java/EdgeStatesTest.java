/** Promises 22 to 24, STATES and what counts as refused among the terms, and the 512 calls of an object. */
public final class EdgeStatesTest {
    private static final Due DUE = new Due();
    private static final Twins TWINS = new Twins(DUE);
    private static final int BAD = RootedClasses.BAD, NO = RootedClasses.NO, FULL = RootedClasses.FULL;
    private static final int LEAST = Integer.MIN_VALUE, GREATEST = Integer.MAX_VALUE;

    public static void main(String[] args) {
        eachChangeLeavesOne();
        nothingChangesByIt();
        othersLeaveNone();
        fiveAtMost();
        olderOnesAreLost();
        backToEachKind();
        backIsNoState();
        backFromNone();
        backAndOnAgain();
        backReckonsAnew();
        toldEdges();
        whatCounts();
        digestEdges();
        allCalls();
        DUE.end("EdgeStatesTest");
    }

    private static void told(String name, RootedClasses x, int... want) {
        for (int what = 0; what < want.length; what++) {
            DUE.is(name + ": told(" + what + ")", x.told(what), want[what]);
        }
    }

    private static RootedClasses typed(String text) {
        RootedClasses x = new RootedClasses();
        Place.write(x, text);
        return x;
    }

    // "STATES: each call told S, if it is not refused, leaves one"
    private static void eachChangeLeavesOne() {
        RootedClasses x = typed("m1230;");
        DUE.is("points", x.points(4), 4);
        told("points", x, 0, 0, 0, 6, 4, 0, 1);
        DUE.is("moves", x.moves(1230), 0);
        told("moves", x, 0, 0, 0, 6, 4, 1, 2);
        DUE.is("drops", x.drops(0), 0);
        told("drops", x, 0, 0, 0, 6, 4, 0, 3);
        DUE.is("reads", x.reads(), 1);
        told("reads", x, 0, 0, 0, 6, 4, 1, 4);
    }

    // "also if nothing changes by it"
    private static void nothingChangesByIt() {
        for (int n = 1; n <= 5; n++) {
            RootedClasses x = typed("n" + n + ";");
            x.points(n);
            DUE.is("points, the same", x.points(n), n);
            told("points, the same", x, 0, 0, 0, 3, n, 0, 2);
            DUE.is("reads, the same", x.reads(), 1);
            told("reads, the same", x, 0, 0, 0, 3, n, 0, 3);
            DUE.is("back", x.back(), 2);
            DUE.is("back", x.back(), 1);
            told("back", x, 0, 0, 0, 3, n, 0, 1);
            DUE.is("back", x.back(), 0);
            told("back", x, 0, 0, 0, 3, 4, 0, 0);
        }
        RootedClasses x = typed("m0123;x0;");
        DUE.is("there and back within a text", x.reads(), 2);
        told("there and back within a text", x, 0, 0, 0, 9, 4, 0, 1);
    }

    /** Refused calls, questions, type, clear, a text that is not done. */
    private static void othersLeaveNone() {
        RootedClasses x = new RootedClasses();
        x.moves(1230);
        x.points(6);
        x.moves(1);
        x.drops(1);
        for (int what = 0; what < 8; what++) {
            x.of(what);
        }
        x.element(0, 0);
        x.product(0, 0);
        x.sort(0, 0);
        x.times(0, 0, 0);
        x.degree(0);
        x.value(0, 0);
        x.spread(0, 0);
        x.part(0, 0, 0);
        x.mirror(0);
        x.blind(0);
        x.within(0, 0, 0);
        x.natural(0);
        x.turned(0, 0);
        x.digest();
        x.reads();
        x.type('x');
        x.reads();
        x.type('1');
        x.type(';');
        x.reads();
        told("others leave none", x, 3, 0, 0, 3, 4, 1, 1);
        x.clear();
        told("others leave none", x, 3, 0, 0, 0, 4, 1, 1);
        x.moves(123);
        x.moves(123);
        x.moves(123);
        told("FULL leaves none", x, 3, 0, 1, 0, 4, 3, 3);
        for (int left = 2; left >= 0; left--) {
            DUE.is("back", x.back(), left);
        }
        told("back at the first", x, 3, 0, 1, 0, 4, 0, 0);
    }

    // "5 at most"
    private static void fiveAtMost() {
        for (int changes = 0; changes <= 12; changes++) {
            RootedClasses x = new RootedClasses();
            for (int k = 0; k < changes; k++) {
                x.points(1 + k % 5);
                DUE.is("STATES behind " + (k + 1), x.told(6), Math.min(5, k + 1));
            }
            int states = Math.min(5, changes);
            for (int left = states - 1; left >= 0; left--) {
                DUE.is("back of " + changes, x.back(), left);
                DUE.is("STATES yet", x.told(6), left);
                int k = changes - (states - left) - 1;
                DUE.is("N of " + changes, x.told(4), k < 0 ? 4 : 1 + k % 5);
            }
            DUE.is("no more of " + changes, x.back(), NO);
            int k = changes - states - 1;
            told("no more of " + changes, x, 0, 1, 0, 0, k < 0 ? 4 : 1 + k % 5, 0, 0);
        }
    }

    // "older ones lost", whichever call leaves the sixth
    private static void olderOnesAreLost() {
        for (int kind = 0; kind < 4; kind++) {
            RootedClasses x = typed("n2;");
            x.moves(1230);
            x.moves(123);
            x.drops(1);
            x.drops(0);
            x.moves(1203);
            told("five", x, 0, 0, 0, 3, 4, 1, 5);
            int answer = kind == 0 ? x.points(5) : kind == 1 ? x.moves(123) : kind == 2 ? x.drops(0) : x.reads();
            DUE.is("a sixth of kind " + kind, answer, kind == 0 ? 4 : kind == 2 ? 0 : 1);
            DUE.is("five yet", x.told(6), 5);
            int[] orders = {3, 1, 4, 4, 4};
            int[] generators = {1, 0, 1, 2, 1};
            for (int k = 0; k < 5; k++) {
                DUE.is("back " + k, x.back(), 4 - k);
                DUE.is("ORDER " + k, x.of(0), orders[k]);
                DUE.is("GENERATORS " + k, x.told(5), generators[k]);
                DUE.is("N " + k, x.told(4), 4);
            }
            DUE.is("the first is lost", x.back(), NO);
            told("the first is lost", x, 0, 1, 0, 3, 4, 1, 0);
        }
        TWINS.refused("refused with five, none is lost", Place.full().before, x -> x.points(6), BAD);
        TWINS.refused("refused with five, none is lost", Place.full().before, x -> x.moves(1234), FULL);
        TWINS.refused("refused with five, none is lost", Place.full().before, x -> x.drops(3), BAD);
    }

    // "A STATE back": N and GENERATORS, in their order
    private static void backToEachKind() {
        RootedClasses x = new RootedClasses();
        x.points(5);
        x.moves(12340);
        x.moves(1243);
        x.moves(10234);
        x.drops(1);
        DUE.is("back behind drops", x.back(), 4);
        told("back behind drops", x, 0, 0, 0, 0, 5, 3, 4);
        x.drops(0);
        DUE.is("GENERATOR 1 comes back to its place", x.drops(1), 1);
        DUE.is("GENERATOR 1 comes back to its place", x.element(1, 0), 1243);
        x.back();
        x.back();
        x.points(5);
        DUE.is("back behind points, N the same", x.back(), 3);
        told("back behind points", x, 0, 0, 0, 0, 5, 3, 3);
        DUE.is("back behind moves", x.back(), 2);
        told("back behind moves", x, 0, 0, 0, 0, 5, 2, 2);
        DUE.is("ORDER", x.of(0), 120);
    }

    private static void backIsNoState() {
        RootedClasses x = new RootedClasses();
        x.moves(1230);
        x.moves(1032);
        DUE.is("back", x.back(), 1);
        DUE.is("back again goes farther", x.back(), 0);
        DUE.is("not to and fro", x.back(), NO);
        told("not to and fro", x, 0, 1, 0, 0, 4, 0, 0);
    }

    // "NO: none."
    private static void backFromNone() {
        TWINS.refused("none at first", x -> { }, RootedClasses::back, NO);
        TWINS.refused("none behind refused calls", x -> {
            x.points(0);
            x.moves(-1);
            x.drops(0);
            x.back();
        }, RootedClasses::back, NO);
        TWINS.refused("none behind a text that is not done", x -> {
            Place.write(x, "n5;x0;");
            x.reads();
        }, RootedClasses::back, NO);
        TWINS.refused("none when all are gone", x -> {
            x.moves(1230);
            x.moves(1032);
            x.back();
            x.back();
        }, RootedClasses::back, NO);
        TWINS.refused("none when five are gone", x -> {
            for (int k = 0; k < 9; k++) {
                x.points(5);
            }
            x.moves(12340);
            for (int k = 0; k < 5; k++) {
                x.back();
            }
        }, RootedClasses::back, NO);
    }

    private static void backAndOnAgain() {
        RootedClasses x = new RootedClasses();
        for (int k = 0; k < 6; k++) {
            x.points(1 + k % 5);
        }
        x.back();
        x.back();
        told("three yet", x, 0, 0, 0, 0, 4, 0, 3);
        x.moves(1230);
        x.moves(123);
        told("five again", x, 0, 0, 0, 0, 4, 2, 5);
        x.drops(0);
        told("five yet", x, 0, 0, 0, 0, 4, 1, 5);
        int[] points = {4, 4, 4, 3, 2};
        int[] generators = {2, 1, 0, 0, 0};
        for (int k = 0; k < 5; k++) {
            DUE.is("back", x.back(), 4 - k);
            told("back " + k, x, 0, 0, 0, 0, points[k], generators[k], 4 - k);
        }
        DUE.is("no more", x.back(), NO);
    }

    /** What was reckoned before belongs to other GENERATORS. */
    private static void backReckonsAnew() {
        RootedClasses x = new RootedClasses();
        long first = x.digest();
        x.moves(1230);
        x.moves(1023);
        DUE.is("rows of all four", x.degree(4), 3);
        x.back();
        DUE.is("no ROW 4 in a ring", x.degree(4), BAD);
        DUE.is("SORTS", x.of(1), 4);
        DUE.is("VALUE", x.value(1, 1), 5);
        x.back();
        DUE.is("SORTS", x.of(1), 1);
        DUE.is("element", x.element(1, 0), BAD);
        RootedClasses y = new RootedClasses();
        y.element(1, 0);
        y.element(1, 0);
        DUE.is("digest as if nothing had been", x.digest(), y.digest());
        DUE.is("digest has the counts in it", x.digest() == first ? 1 : 0, 0);
    }

    // "How often refused: BAD (0), NO (1), FULL (2); bytes of THE TEXT (3) .. STATES (6). BAD."
    private static void toldEdges() {
        for (Place at : Place.all()) {
            for (int what : new int[] {-1, 7, 8, LEAST, GREATEST}) {
                TWINS.refused(at.name + ": told " + what, at.before, x -> x.told(what), BAD);
            }
            for (int what = 0; what < 7; what++) {
                int w = what;
                TWINS.harmless(at.name + ": told " + w, at.before, x -> x.told(w), at.told[w]);
            }
        }
        RootedClasses x = new RootedClasses();
        for (int k = 1; k <= 200; k++) {
            DUE.is("told is refused", x.told(k % 2 == 0 ? 7 : -1), BAD);
            DUE.is("and tells of it", x.told(0), k);
        }
    }

    /** "Refused (a question, too)": each call's refusal counts in its own place, once. */
    private static void whatCounts() {
        RootedClasses x = new RootedClasses();
        x.moves(1230);
        x.moves(1023);
        x.moves(123);
        Twins.Call[] bad = {y -> y.points(0), y -> y.moves(0), y -> y.drops(3), y -> y.of(8), y -> y.element(24, 0), y -> y.product(0, 24),
            y -> y.sort(5, 0), y -> y.times(0, 0, 5), y -> y.degree(5), y -> y.value(0, 5), y -> y.spread(5, 0), y -> y.part(0, 0, 1),
            y -> y.mirror(5), y -> y.blind(5), y -> y.within(0, 5, 0), y -> y.natural(5), y -> y.turned(5, 5), y -> y.type(128),
            y -> y.told(7)};
        for (int k = 0; k < bad.length; k++) {
            DUE.is("BAD " + k, bad[k].on(x), BAD);
            told("BAD " + k, x, k + 1, 0, 0, 0, 4, 3, 3);
        }
        DUE.is("NO", x.turned(0, 2), NO);
        told("NO", x, bad.length, 1, 0, 0, 4, 3, 3);
        DUE.is("FULL", x.moves(123), FULL);
        told("FULL", x, bad.length, 1, 1, 0, 4, 3, 3);
        x.back();
        x.back();
        x.back();
        DUE.is("NO", x.back(), NO);
        told("NO", x, bad.length, 2, 1, 0, 4, 0, 0);
        Place.write(x, " ".repeat(80));
        DUE.is("FULL", x.type(0), FULL);
        DUE.is("FAULT", x.reads(), -90);
        told("FAULT does not count", x, bad.length, 2, 2, 80, 4, 0, 0);
        x.clear();
        Place.write(x, "x9;");
        DUE.is("stop", x.reads(), -1000);
        told("stop does not count", x, bad.length, 2, 2, 3, 4, 0, 0);
    }

    // "h = 2447; then h = 31 h + v for each v: told(0) to told(6); of(0) to of(7); .."
    private static void digestEdges() {
        for (Place at : Place.all()) {
            long due = at.oracle().digest(at.told);
            TWINS.harmless(at.name + ": digest", at.before, RootedClasses::digest, due);
            DUE.is(at.name + ": digest as the first question", at.made().digest(), due);
        }
        RootedClasses x = new RootedClasses();
        long empty = 2447;
        for (int v : new int[] {0, 0, 0, 0, 4, 0, 0, 1, 1, 1, 11, 1, 0, 1, 1, 1, 1, 0, 0, 0, 4, 1, 1, 1}) {
            empty = 31 * empty + v;
        }
        DUE.is("digest of a new object", x.digest(), empty);
        DUE.is("digest again", x.digest(), empty);
        x.type('n');
        long step = 1;
        for (int k = 0; k < 20; k++) {
            step *= 31;
        }
        DUE.is("a byte is in it", x.digest(), empty + step);
    }

    // "An object is used for at most 512 calls after it has been made"
    private static void allCalls() {
        RootedClasses x = new RootedClasses();
        for (int k = 1; k < 512; k++) {
            DUE.is("call " + k, x.points(0), BAD);
        }
        DUE.is("call 512", x.told(0), 511);
        x = new RootedClasses();
        for (int k = 1; k < 512; k++) {
            DUE.is("call " + k, x.back(), NO);
        }
        DUE.is("call 512", x.told(1), 511);
        x = new RootedClasses();
        for (int k = 1; k <= 80; k++) {
            x.type(127);
        }
        for (int k = 81; k < 512; k++) {
            DUE.is("call " + k, x.type(127), FULL);
        }
        DUE.is("call 512", x.told(2), 431);
        x = new RootedClasses();
        for (int k = 1; k < 512; k++) {
            DUE.is("call " + k, x.points(1 + k % 5), k == 1 ? 4 : 1 + (k - 1) % 5);
        }
        DUE.is("call 512", x.told(6), 5);
        x = new RootedClasses();
        x.points(5);
        x.moves(12340);
        x.moves(10234);
        long due = Oracle.of(5, java.util.List.of(12340, 10234)).digest(new int[] {0, 0, 0, 0, 5, 2, 3});
        for (int k = 4; k <= 512; k++) {
            DUE.is("call " + k, x.digest(), due);
        }
    }
}
