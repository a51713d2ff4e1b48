import java.util.ArrayList;
import java.util.List;

/** Promises 1 to 4, and N, MOVES and GENERATORS among the terms: what is taken last, what is refused first. */
public final class EdgeChangesTest {
    private static final Due DUE = new Due();
    private static final Twins TWINS = new Twins(DUE);
    private static final int BAD = RootedClasses.BAD, FULL = RootedClasses.FULL;
    private static final int LEAST = Integer.MIN_VALUE, GREATEST = Integer.MAX_VALUE;
    private static final int[] TENS = {1, 10, 100, 1000, 10000, 100000};

    public static void main(String[] args) {
        newObject();
        for (Place at : Place.all()) {
            pointsTaken(at);
            pointsRefused(at);
            movesRefused(at);
            movesFull(at);
            dropsEdges(at);
        }
        for (int n = 1; n <= 5; n++) {
            everyNumber(n);
            figuresInFront(n);
            leastAndGreatestMove(n);
            threeGenerators(n);
            noGenerators(n);
        }
        dropsMovesTheOthers();
        badBeforeFull();
        DUE.end("EdgeChangesTest");
    }

    private static RootedClasses made(int n, int... codes) {
        RootedClasses x = new RootedClasses();
        x.points(n);
        for (int code : codes) {
            x.moves(code);
        }
        return x;
    }

    private static void told(String name, RootedClasses x, int... want) {
        for (int what = 0; what < want.length; what++) {
            DUE.is(name + ": told(" + what + ")", x.told(what), want[what]);
        }
    }

    private static List<Integer> movesOf(int n) {
        List<Integer> all = new ArrayList<>();
        for (int code = 0; code < TENS[n]; code++) {
            if (isMove(code, n)) {
                all.add(code);
            }
        }
        return all;
    }

    /** By its figures as signs: each POINT stands among them, and there are no more. */
    private static boolean isMove(long code, int n) {
        String told = String.valueOf(code);
        while (told.length() < n) {
            told = "0" + told;
        }
        boolean is = told.length() == n;
        for (int p = 0; p < n; p++) {
            is = is && told.indexOf('0' + p) >= 0;
        }
        return is;
    }

    // "As told; no GENERATORS." "4 at first"
    private static void newObject() {
        RootedClasses x = new RootedClasses();
        told("a new object", x, 0, 0, 0, 0, 4, 0, 0);
        DUE.is("a new object: ORDER", x.of(0), 1);
        DUE.is("a new object: GENERATORS", x.of(5), 0);
        DUE.is("a new object: the one that leaves all", x.element(0, 0), 123);
        DUE.is("a new object: no more", x.element(1, 0), BAD);
        TWINS.refused("a new object has no STATE", y -> { }, RootedClasses::back, RootedClasses.NO);
        TWINS.harmless("a new object has no byte", y -> { }, RootedClasses::clear, 0);
        TWINS.harmless("a new object's text is empty", y -> { }, RootedClasses::reads, -10);
        RootedClasses other = new RootedClasses();
        other.points(0);
        other.moves(1230);
        other.type('n');
        told("another object's calls", new RootedClasses(), 0, 0, 0, 0, 4, 0, 0);
    }

    // "N becomes n, no GENERATORS: what it was. S." for the least and the greatest n and all between
    private static void pointsTaken(Place at) {
        for (int n = 1; n <= 5; n++) {
            RootedClasses x = at.made();
            int[] counts = Twins.counts(x);
            int states = Math.min(5, x.told(6) + 1);
            int bytes = x.told(3);
            String name = at.name + ": points " + n;
            DUE.is(name, x.points(n), at.points);
            told(name, x, counts[0], counts[1], counts[2], bytes, n, 0, states);
            DUE.is(name + ": ORDER", x.of(0), 1);
            DUE.is(name + ": points are left", x.sort(0, 5), n);
            DUE.is(name + ": back", x.back(), states - 1);
            DUE.is(name + ": N again", x.told(4), at.points);
            DUE.is(name + ": GENERATORS again", x.told(5), at.generators.size());
            DUE.is(name + ": ORDER again", x.of(0), at.order);
        }
    }

    // "N POINTS (1 .. 5"
    private static void pointsRefused(Place at) {
        for (int n : new int[] {0, 6, -1, 7, LEAST, LEAST + 1, GREATEST, GREATEST - 1, -4, 1 << 8 | 4, 1 << 16 | 4, 1 << 31 | 4}) {
            TWINS.refused(at.name + ": points " + n, at.before, x -> x.points(n), BAD);
        }
    }

    private static void movesRefused(Place at) {
        int n = at.points;
        List<Integer> all = movesOf(n);
        int least = all.get(0);
        int greatest = all.get(all.size() - 1);
        for (int code : new int[] {least - 1, greatest + 1, -1, -greatest - 1, LEAST, GREATEST, TENS[n] + least, TENS[n] + greatest,
            TENS[n] - 1, TENS[n], greatest * 10 + n}) {
            TWINS.refused(at.name + ": moves " + code, at.before, x -> x.moves(code), BAD);
        }
        if (greatest > 0) {
            TWINS.refused(at.name + ": less than 0", at.before, x -> x.moves(-greatest), BAD);
        }
    }

    // "FULL: 3."
    private static void movesFull(Place at) {
        List<Integer> all = movesOf(at.points);
        int least = all.get(0);
        int greatest = all.get(all.size() - 1);
        Twins.Before full = x -> {
            at.before.on(x);
            while (x.told(5) < 3) {
                x.moves(greatest);
            }
        };
        TWINS.refused(at.name + ": a fourth that leaves all", full, x -> x.moves(least), FULL);
        TWINS.refused(at.name + ": a fourth", full, x -> x.moves(greatest), FULL);
        for (int code : new int[] {-1, least + TENS[at.points], LEAST, GREATEST}) {
            TWINS.refused(at.name + ": BAD goes before FULL, " + code, full, x -> x.moves(code), BAD);
        }
    }

    // "A GENERATOR goes (those behind it are one nearer): how many are left. S. BAD."
    private static void dropsEdges(Place at) {
        int count = at.generators.size();
        for (int i : new int[] {-1, count, count + 1, 3, LEAST, GREATEST}) {
            TWINS.refused(at.name + ": drops " + i, at.before, x -> x.drops(i), BAD);
        }
        for (int i = 0; i < count; i++) {
            RootedClasses x = at.made();
            int[] counts = Twins.counts(x);
            int states = Math.min(5, x.told(6) + 1);
            String name = at.name + ": drops " + i;
            DUE.is(name, x.drops(i), count - 1);
            told(name, x, counts[0], counts[1], counts[2], x.told(3), at.points, count - 1, states);
            List<Integer> left = new ArrayList<>(at.generators);
            left.remove(i);
            Oracle o = Oracle.of(at.points, left);
            for (int what = 0; what < 8; what++) {
                DUE.is(name + ": of " + what, x.of(what), o.whole(what));
            }
            DUE.is(name + ": now the last is too much", x.drops(count - 1), BAD);
            DUE.is(name + ": back", x.back(), states - 1);
            DUE.is(name + ": ORDER again", x.of(0), at.order);
        }
    }

    // "a number with N figures .. (0 at the front, too: 1032 tells 1, 0, 3, 2; 0123 is told 123)", "(no two the same)"
    private static void everyNumber(int n) {
        int end = 10 * TENS[n] + 10;
        RootedClasses x = made(n);
        int bad = 0;
        for (int code = -3; code < end; code++) {
            boolean is = isMove(code, n);
            DUE.is(n + " points: moves " + code, x.moves(code), is ? 0 : BAD);
            if (is) {
                DUE.is(n + " points: dropped again", x.drops(0), 0);
            } else {
                bad++;
            }
            // an object has 512 calls
            if (code % 200 == 0) {
                DUE.is(n + " points: GENERATORS up to " + code, x.told(5), 0);
                DUE.is(n + " points: refused up to " + code, x.told(0), bad);
                x = made(n);
                bad = 0;
            }
        }
    }

    // A MOVE has N figures: one more in front, and be it by many tens, is not as told
    private static void figuresInFront(int n) {
        for (int code : movesOf(n)) {
            RootedClasses x = made(n);
            int bad = 0;
            long step = TENS[n];
            for (long times = 1; code + step * times <= GREATEST; times = times * 3 + 1) {
                int wrong = (int) (code + step * times);
                DUE.is(n + " points: moves " + wrong, x.moves(wrong), BAD);
                bad++;
            }
            int last = (int) (code + step * ((GREATEST - code) / step));
            DUE.is(n + " points: moves " + last, x.moves(last), BAD);
            DUE.is(n + " points: moves " + (-last), x.moves(-last), BAD);
            DUE.is(n + " points: moves " + (LEAST + code), x.moves(LEAST + code), BAD);
            told(n + " points, " + code, x, bad + 3, 0, 0, 0, n, 0, 1);
            DUE.is(n + " points: moves " + code, x.moves(code), 0);
            DUE.is(n + " points: it is an ELEMENT", has(x, code), 1);
        }
    }

    private static int has(RootedClasses x, int code) {
        int order = x.of(0);
        for (int i = 0; i < order; i++) {
            if (x.element(i, 0) == code) {
                return 1;
            }
        }
        return 0;
    }

    private static void leastAndGreatestMove(int n) {
        int[] least = {0, 0, 1, 12, 123, 1234};
        int[] greatest = {0, 0, 10, 210, 3210, 43210};
        RootedClasses x = made(n);
        DUE.is(n + " points: the MOVE that leaves all", x.moves(least[n]), 0);
        DUE.is(n + " points: ORDER", x.of(0), 1);
        DUE.is(n + " points: its number", x.element(0, 0), least[n]);
        DUE.is(n + " points: before the least", x.moves(least[n] - 1), BAD);
        DUE.is(n + " points: the greatest", x.moves(greatest[n]), 1);
        DUE.is(n + " points: behind the greatest", x.moves(greatest[n] + 1), BAD);
        DUE.is(n + " points: ORDER", x.of(0), n == 1 ? 1 : 2);
        DUE.is(n + " points: the last ELEMENT", x.element(n == 1 ? 0 : 1, 0), greatest[n]);
        told(n + " points", x, 2, 0, 0, 0, n, 2, 3);
        // a figure that is no POINT: the first that is not, and 9
        for (int figure : new int[] {n, 9}) {
            int wrong = least[n] - least[n] % 10 + figure;
            DUE.is(n + " points: moves " + wrong, made(n).moves(wrong), BAD);
        }
    }

    // "GENERATORS 0 .. 2, as they come."
    private static void threeGenerators(int n) {
        int least = movesOf(n).get(0);
        RootedClasses x = made(n);
        for (int g = 0; g < 3; g++) {
            DUE.is(n + " points: GENERATOR " + g + ", the same again", x.moves(least), g);
            DUE.is(n + " points: GENERATORS", x.told(5), g + 1);
            DUE.is(n + " points: STATES", x.told(6), g + 2);
        }
        DUE.is(n + " points: GENERATOR 3", x.moves(least), FULL);
        told(n + " points", x, 0, 0, 1, 0, n, 3, 4);
        DUE.is(n + " points: one goes", x.drops(2), 2);
        DUE.is(n + " points: there is room again", x.moves(least), 2);
        DUE.is(n + " points: and again none", x.moves(least), FULL);
        DUE.is(n + " points: points makes room", x.points(n), n);
        DUE.is(n + " points: the first again", x.moves(least), 0);
    }

    // "ELEMENTS: all MOVES that are products of GENERATORS, any number of them (the one that leaves all, too)"
    private static void noGenerators(int n) {
        RootedClasses x = made(n);
        int[] due = {1, 1, 1, 11, 1, 0, 1, 1};
        for (int what = 0; what < 8; what++) {
            DUE.is(n + " points, no GENERATORS: of " + what, x.of(what), due[what]);
        }
        DUE.is(n + " points: the one ELEMENT", x.element(0, 0), movesOf(n).get(0));
        DUE.is(n + " points: product", x.product(0, 0), 0);
        DUE.is(n + " points: POINTS left", x.sort(0, 5), n);
        DUE.is(n + " points: natural", x.natural(0), n);
        DUE.is(n + " points: drops 0", x.drops(0), BAD);
    }

    private static void dropsMovesTheOthers() {
        int[] codes = {12340, 1243, 10234};
        int[] orders = {5, 2, 2};
        for (int gone = 0; gone < 3; gone++) {
            for (int next = 0; next < 2; next++) {
                RootedClasses x = made(5, codes);
                DUE.is("drops " + gone, x.drops(gone), 2);
                DUE.is("drops " + gone + ", " + next, x.drops(next), 1);
                int left = 3 - gone - (next < gone ? next : next + 1);
                DUE.is("ORDER of GENERATOR " + left, x.of(0), orders[left]);
                DUE.is("GENERATOR " + left, has(x, codes[left]), 1);
                DUE.is("the next one's number", x.moves(1234), 1);
            }
        }
    }

    // "the first of: BAD .. NO .. FULL"
    private static void badBeforeFull() {
        RootedClasses x = made(5, 1234, 1234, 1234);
        for (int code : new int[] {0, 1233, 43211, 1235, 11234, 101234, LEAST, GREATEST}) {
            DUE.is("BAD goes before FULL: " + code, x.moves(code), BAD);
        }
        DUE.is("FULL", x.moves(43210), FULL);
        told("BAD before FULL", x, 8, 0, 1, 0, 5, 3, 4);
    }
}
