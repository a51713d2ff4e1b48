/** Each promise by hand: ordinary inputs, the edges that the document names, wrong inputs. */
public final class PromiseTest {
    private static final Due DUE = new Due();
    private static final int BAD = RootedClasses.BAD, NO = RootedClasses.NO, FULL = RootedClasses.FULL;
    private static final int[] FAR = {-1, Integer.MIN_VALUE, Integer.MAX_VALUE, 1 << 16};

    public static void main(String[] args) {
        newObject();
        points();
        moves();
        drops();
        of();
        element();
        product();
        sort();
        times();
        degreeValueSpread();
        part();
        mirror();
        blind();
        within();
        natural();
        turned();
        type();
        clear();
        readsRight();
        readsFaults();
        readsStops();
        back();
        told();
        digest();
        DUE.end("PromiseTest");
    }

    private static RootedClasses made(int n, int... codes) {
        RootedClasses x = new RootedClasses();
        x.points(n);
        for (int code : codes) {
            x.moves(code);
        }
        return x;
    }

    private static void write(RootedClasses x, String text) {
        x.clear();
        for (int k = 0; k < text.length(); k++) {
            x.type(text.charAt(k));
        }
    }

    private static int read(RootedClasses x, String text) {
        write(x, text);
        return x.reads();
    }

    private static void row(String call, int[] got, int... want) {
        DUE.is(call + " length", got.length, want.length);
        for (int k = 0; k < want.length && k < got.length; k++) {
            DUE.is(call + " at " + k, got[k], want[k]);
        }
    }

    private static int[] toldAll(RootedClasses x) {
        int[] all = new int[7];
        for (int what = 0; what < 7; what++) {
            all[what] = x.told(what);
        }
        return all;
    }

    private static int[] values(RootedClasses x, int r) {
        int[] all = new int[x.of(1)];
        for (int i = 0; i < all.length; i++) {
            all[i] = x.value(r, i);
        }
        return all;
    }

    // Promise 1
    private static void newObject() {
        RootedClasses x = new RootedClasses();
        row("1 told", toldAll(x), 0, 0, 0, 0, 4, 0, 0);
        DUE.is("1 order", x.of(0), 1);
        DUE.is("1 the one element", x.element(0, 0), 123);
        DUE.is("1 back", x.back(), NO);
        RootedClasses y = new RootedClasses();
        x.points(5);
        DUE.is("1 another object", y.told(4), 4);
        DUE.is("1 NONE", RootedClasses.NONE, -1);
        DUE.is("1 BAD", RootedClasses.BAD, -2);
        DUE.is("1 NO", RootedClasses.NO, -3);
        DUE.is("1 FULL", RootedClasses.FULL, -4);
    }

    // Promise 2
    private static void points() {
        RootedClasses x = new RootedClasses();
        x.moves(1230);
        DUE.is("2 points 4", x.points(4), 4);
        DUE.is("2 generators go, though N stays", x.told(5), 0);
        DUE.is("2 a state each", x.told(6), 2);
        DUE.is("2 points 1", x.points(1), 4);
        DUE.is("2 points 5", x.points(5), 1);
        x.moves(12340);
        DUE.is("2 points 0", x.points(0), BAD);
        DUE.is("2 points 6", x.points(6), BAD);
        for (int n : FAR) {
            DUE.is("2 points " + n, x.points(n), BAD);
        }
        row("2 told", toldAll(x), 6, 0, 0, 0, 5, 1, 5);
    }

    // Promise 3
    private static void moves() {
        RootedClasses x = new RootedClasses();
        int[] wrong = {-1, 12, 122, 1, 124, 1233, 4321, 10123, 12304, 9999, Integer.MAX_VALUE, Integer.MIN_VALUE, 1032 + 10000};
        for (int code : wrong) {
            DUE.is("3 moves " + code, x.moves(code), BAD);
        }
        row("3 told", toldAll(x), wrong.length, 0, 0, 0, 4, 0, 0);
        DUE.is("3 moves 123", x.moves(123), 0);
        DUE.is("3 moves 1032", x.moves(1032), 1);
        DUE.is("3 the same again", x.moves(1032), 2);
        DUE.is("3 a fourth", x.moves(1032), FULL);
        DUE.is("3 BAD goes before FULL", x.moves(1), BAD);
        row("3 told", toldAll(x), wrong.length + 1, 0, 1, 0, 4, 3, 3);
        RootedClasses one = made(1);
        DUE.is("3 moves 0 of one point", one.moves(0), 0);
        DUE.is("3 moves 1 of one point", one.moves(1), BAD);
        RootedClasses five = made(5);
        DUE.is("3 moves 1234 of five points", five.moves(1234), 0);
        DUE.is("3 moves 43210", five.moves(43210), 1);
        DUE.is("3 moves 3210 of five points", five.moves(3210), BAD);
        DUE.is("3 moves 143210", five.moves(143210), BAD);
    }

    // Promise 4
    private static void drops() {
        RootedClasses x = new RootedClasses();
        DUE.is("4 none to drop", x.drops(0), BAD);
        x.moves(1230);
        x.moves(123);
        x.moves(1032);
        DUE.is("4 drops 3", x.drops(3), BAD);
        for (int i : FAR) {
            DUE.is("4 drops " + i, x.drops(i), BAD);
        }
        DUE.is("4 drops 0", x.drops(0), 2);
        DUE.is("4 those behind are nearer", x.of(0), 2);
        DUE.is("4 drops 0 again", x.drops(0), 1);
        DUE.is("4 the last is left", x.element(1, 0), 1032);
        DUE.is("4 drops 0 at last", x.drops(0), 0);
        DUE.is("4 order", x.of(0), 1);
        DUE.is("4 a new one takes the free number", x.moves(1230), 0);
        DUE.is("4 states", x.told(6), 5);
    }

    // Promise 5
    private static void of() {
        // ORDER, SORTS, EXPONENT, P, ROOT, GENERATORS, alone, of DEGREE 1
        ofAll("one point", made(1), 1, 1, 1, 11, 1, 0, 1, 1);
        ofAll("two points", made(2, 10), 2, 2, 2, 11, 10, 1, 2, 2);
        ofAll("four in a ring", made(4, 1230), 4, 4, 4, 13, 8, 1, 4, 4);
        ofAll("a square", made(4, 1230, 321), 8, 5, 4, 13, 8, 2, 2, 4);
        ofAll("twelve even ones", made(4, 1203, 1032), 12, 4, 6, 13, 4, 2, 1, 3);
        ofAll("all of four", made(4, 1230, 1023), 24, 5, 12, 13, 2, 2, 1, 2);
        ofAll("six in a ring", made(5, 12043), 6, 6, 6, 13, 4, 1, 6, 6);
        ofAll("twenty", made(5, 12340, 2413), 20, 5, 20, 41, 36, 2, 1, 4);
        ofAll("sixty", made(5, 12340, 12034), 60, 5, 30, 31, 3, 2, 1, 1);
        ofAll("all of five", made(5, 12340, 10234, 1234), 120, 7, 60, 61, 2, 3, 1, 2);
        RootedClasses x = new RootedClasses();
        DUE.is("5 of 8", x.of(8), BAD);
        for (int what : FAR) {
            DUE.is("5 of " + what, x.of(what), BAD);
        }
        DUE.is("5 counted", x.told(0), 5);
    }

    private static void ofAll(String name, RootedClasses x, int... want) {
        for (int what = 7; what >= 0; what--) {
            DUE.is("5 of " + what + " for " + name, x.of(what), want[what]);
        }
    }

    // Promise 6
    private static void element() {
        RootedClasses x = made(4, 1230);
        int[][] want = {{123, 0, 0, 1}, {1230, 1, 3, 4}, {2301, 2, 2, 2}, {3012, 3, 1, 4}};
        for (int i = 0; i < 4; i++) {
            for (int what = 0; what < 4; what++) {
                DUE.is("6 element " + i + " " + what, x.element(i, what), want[i][what]);
            }
        }
        DUE.is("6 element 4", x.element(4, 0), BAD);
        DUE.is("6 element what 4", x.element(0, 4), BAD);
        for (int far : FAR) {
            DUE.is("6 element " + far, x.element(far, 0), BAD);
            DUE.is("6 element what " + far, x.element(0, far), BAD);
        }
        DUE.is("6 counted", x.told(0), 10);
        RootedClasses all = made(5, 12340, 10234);
        DUE.is("6 the last", all.element(119, 0), 43210);
        DUE.is("6 behind the last", all.element(120, 0), BAD);
    }

    // Promise 7
    private static void product() {
        RootedClasses x = made(3, 120, 102);
        // 012 021 102 120 201 210; first 021, then 102 takes 0 to 1, 1 by 2 to 2, 2 by 1 to 0
        DUE.is("7 021 102", x.product(1, 2), 3);
        DUE.is("7 102 021", x.product(2, 1), 4);
        DUE.is("7 120 201", x.product(3, 4), 0);
        DUE.is("7 0 5", x.product(0, 5), 5);
        DUE.is("7 6 0", x.product(6, 0), BAD);
        DUE.is("7 0 6", x.product(0, 6), BAD);
        for (int far : FAR) {
            DUE.is("7 far", x.product(far, 0), BAD);
            DUE.is("7 far behind", x.product(0, far), BAD);
        }
        DUE.is("7 counted", x.told(0), 10);
    }

    // Promise 8
    private static void sort() {
        RootedClasses x = made(4, 1203, 1032);
        // of the twelve even moves: 0123; 0231, ..; 0312, ..; 1032, ..
        int[][] want = {{1, 1, 0, 0, 0, 4}, {4, 3, 1, 2, 2, 1}, {4, 3, 2, 1, 1, 1}, {3, 2, 3, 3, 0, 0}};
        for (int i = 0; i < 4; i++) {
            for (int what = 0; what < 6; what++) {
                DUE.is("8 sort " + i + " " + what, x.sort(i, what), want[i][what]);
            }
        }
        DUE.is("8 sort 4", x.sort(4, 0), BAD);
        DUE.is("8 sort what 6", x.sort(0, 6), BAD);
        for (int far : FAR) {
            DUE.is("8 sort far", x.sort(far, 0), BAD);
            DUE.is("8 sort what far", x.sort(0, far), BAD);
        }
        DUE.is("8 counted", x.told(0), 10);
        RootedClasses still = made(5);
        DUE.is("8 all points are left", still.sort(0, 5), 5);
    }

    // Promise 9
    private static void times() {
        RootedClasses x = made(3, 120, 102);
        // three that change two points, two that turn all three
        int[][][] want = {{{1, 0, 0}, {0, 1, 0}, {0, 0, 1}}, {{0, 1, 0}, {3, 0, 3}, {0, 2, 0}}, {{0, 0, 1}, {0, 2, 0}, {2, 0, 1}}};
        for (int i = 0; i < 3; i++) {
            for (int j = 0; j < 3; j++) {
                row("9 times " + i + " " + j, new int[] {x.times(i, j, 0), x.times(i, j, 1), x.times(i, j, 2)}, want[i][j]);
            }
        }
        DUE.is("9 3 0 0", x.times(3, 0, 0), BAD);
        DUE.is("9 0 3 0", x.times(0, 3, 0), BAD);
        DUE.is("9 0 0 3", x.times(0, 0, 3), BAD);
        for (int far : FAR) {
            DUE.is("9 far", x.times(far, 0, 0), BAD);
            DUE.is("9 far", x.times(0, far, 0), BAD);
            DUE.is("9 far", x.times(0, 0, far), BAD);
        }
        DUE.is("9 counted", x.told(0), 15);
    }

    // Promises 10, 11, 12
    private static void degreeValueSpread() {
        RootedClasses x = made(4, 1230, 321);
        int[] degrees = {1, 1, 1, 1, 2};
        // 0123; 0321 2103; 1032 3210; 1230 3012; 2301, reckoned by 13
        int[][] values = {{1, 1, 1, 1, 1}, {1, 1, 12, 12, 1}, {1, 12, 1, 12, 1}, {1, 12, 12, 1, 1}, {2, 0, 0, 0, 11}};
        int[][] spreads = {{1, 2, 2, 2, 1}, {1, 2, 11, 11, 1}, {1, 11, 2, 11, 1}, {1, 11, 11, 2, 1}, {1, 0, 0, 0, 12}};
        for (int r = 0; r < 5; r++) {
            DUE.is("10 degree " + r, x.degree(r), degrees[r]);
            for (int i = 0; i < 5; i++) {
                DUE.is("11 value " + r + " " + i, x.value(r, i), values[r][i]);
                DUE.is("12 spread " + r + " " + i, x.spread(r, i), spreads[r][i]);
            }
        }
        int bad = 0;
        for (int wrong : new int[] {5, -1, Integer.MIN_VALUE, Integer.MAX_VALUE}) {
            DUE.is("10 degree " + wrong, x.degree(wrong), BAD);
            DUE.is("11 value", x.value(wrong, 0), BAD);
            DUE.is("11 value", x.value(0, wrong), BAD);
            DUE.is("12 spread", x.spread(wrong, 0), BAD);
            DUE.is("12 spread", x.spread(0, wrong), BAD);
            bad += 5;
        }
        DUE.is("10 to 12 counted", x.told(0), bad);
        RootedClasses sixty = made(5, 12340, 12034);
        row("11 of like degrees the lesser first", values(sixty, 1), 3, 0, 30, 13, 19);
        row("11 of like degrees the lesser first", values(sixty, 2), 3, 0, 30, 19, 13);
        DUE.is("12 12 times 13 by 3", sixty.spread(1, 3), 12 * 13 * 21 % 31);
        x.drops(1);
        DUE.is("11 of what it is now", x.value(1, 1), 5);
    }

    // Promise 13
    private static void part() {
        RootedClasses x = made(4, 1230);
        // ROOT is 8; 8 8 is 12, 8 8 8 is 5: the rows are told by 5, 8, 12 at SORT 1
        row("13 row 1", new int[] {x.part(1, 1, 0), x.part(1, 1, 1), x.part(1, 1, 2), x.part(1, 1, 3)}, 0, 0, 0, 1);
        row("13 row 2", new int[] {x.part(2, 1, 0), x.part(2, 1, 1), x.part(2, 1, 2), x.part(2, 1, 3)}, 0, 1, 0, 0);
        row("13 row 3", new int[] {x.part(3, 1, 0), x.part(3, 1, 1), x.part(3, 1, 2), x.part(3, 1, 3)}, 0, 0, 1, 0);
        row("13 at SORT 2", new int[] {x.part(2, 2, 0), x.part(2, 2, 1)}, 0, 1);
        DUE.is("13 at SORT 0", x.part(3, 0, 0), 1);
        DUE.is("13 m 1 at SORT 0", x.part(3, 0, 1), BAD);
        DUE.is("13 m 2 at SORT 2", x.part(3, 2, 2), BAD);
        DUE.is("13 m 4", x.part(3, 1, 4), BAD);
        DUE.is("13 row 4", x.part(4, 1, 0), BAD);
        DUE.is("13 SORT 4", x.part(1, 4, 0), BAD);
        for (int far : FAR) {
            DUE.is("13 far", x.part(far, 0, 0), BAD);
            DUE.is("13 far", x.part(0, far, 0), BAD);
            DUE.is("13 far", x.part(0, 0, far), BAD);
        }
        DUE.is("13 counted", x.told(0), 17);
        RootedClasses all = made(4, 1230, 1023);
        // a row of DEGREE 3 at the moves of all four points in a ring
        row("13 three of four roots", new int[] {all.part(4, 4, 0), all.part(4, 4, 1), all.part(4, 4, 2), all.part(4, 4, 3)}, 1, 1, 0, 1);
    }

    // Promise 14
    private static void mirror() {
        RootedClasses x = made(4, 1230);
        row("14 mirror", new int[] {x.mirror(0), x.mirror(1), x.mirror(2), x.mirror(3)}, 1, 0, 0, 1);
        RootedClasses even = made(4, 1203, 1032);
        row("14 even", new int[] {even.mirror(0), even.mirror(1), even.mirror(2), even.mirror(3)}, 1, 0, 0, 1);
        DUE.is("14 mirror 4", x.mirror(4), BAD);
        for (int far : FAR) {
            DUE.is("14 mirror far", x.mirror(far), BAD);
        }
        DUE.is("14 counted", x.told(0), 5);
    }

    // Promise 15
    private static void blind() {
        RootedClasses x = made(4, 1230, 1023);
        row("15 blind", new int[] {x.blind(0), x.blind(1), x.blind(2), x.blind(3), x.blind(4)}, 31, 13, 9, 1, 1);
        DUE.is("15 blind 5", x.blind(5), BAD);
        for (int far : FAR) {
            DUE.is("15 blind far", x.blind(far), BAD);
        }
        DUE.is("15 counted", x.told(0), 5);
    }

    // Promise 16
    private static void within() {
        RootedClasses x = made(4, 1230, 1023);
        // 3 times 3 is 1 and 2 and 3 and 3
        row("16 3 3", new int[] {x.within(3, 3, 0), x.within(3, 3, 1), x.within(3, 3, 2), x.within(3, 3, 3), x.within(3, 3, 4)}, 1, 0, 1, 1, 1);
        row("16 3 4", new int[] {x.within(3, 4, 0), x.within(3, 4, 1), x.within(3, 4, 2), x.within(3, 4, 3), x.within(3, 4, 4)}, 0, 1, 1, 1, 1);
        RootedClasses even = made(4, 1203, 1032);
        DUE.is("16 twice in it", even.within(3, 3, 3), 2);
        DUE.is("16 of a ROW and what is not its own mirror", even.within(1, 1, 2), 1);
        DUE.is("16 a ROW with itself", even.within(1, 1, 0), 0);
        DUE.is("16 a ROW with its like", even.within(1, 2, 0), 1);
        DUE.is("16", x.within(5, 0, 0), BAD);
        DUE.is("16", x.within(0, 5, 0), BAD);
        DUE.is("16", x.within(0, 0, 5), BAD);
        for (int far : FAR) {
            DUE.is("16 far", x.within(far, 0, 0), BAD);
            DUE.is("16 far", x.within(0, far, 0), BAD);
            DUE.is("16 far", x.within(0, 0, far), BAD);
        }
        DUE.is("16 counted", x.told(0), 15);
    }

    // Promise 17
    private static void natural() {
        DUE.is("17 five points that stay", made(5).natural(0), 5);
        RootedClasses x = made(5, 12043);
        int often = 0;
        for (int t = 0; t < 6; t++) {
            often += x.natural(t);
        }
        DUE.is("17 five in all", often, 5);
        DUE.is("17 two orbits", x.natural(0), 2);
        DUE.is("17 natural 6", x.natural(6), BAD);
        for (int far : FAR) {
            DUE.is("17 far", x.natural(far), BAD);
        }
        DUE.is("17 counted", x.told(0), 5);
    }

    // Promise 18
    private static void turned() {
        RootedClasses x = made(4, 1230, 1023);
        row("18 by 1", new int[] {x.turned(0, 1), x.turned(1, 1), x.turned(2, 1), x.turned(3, 1), x.turned(4, 1)}, 1, 0, 2, 4, 3);
        DUE.is("18 by 0", x.turned(4, 0), 4);
        DUE.is("18 by 2", x.turned(0, 2), NO);
        DUE.is("18 BAD goes before NO", x.turned(5, 2), BAD);
        DUE.is("18 s 5", x.turned(0, 5), BAD);
        for (int far : FAR) {
            DUE.is("18 far", x.turned(far, 0), BAD);
            DUE.is("18 far", x.turned(0, far), BAD);
        }
        row("18 told", toldAll(x), 10, 1, 0, 0, 4, 2, 3);
    }

    // Promise 19
    private static void type() {
        RootedClasses x = new RootedClasses();
        DUE.is("19 0", x.type(0), 1);
        DUE.is("19 127", x.type(127), 2);
        DUE.is("19 128", x.type(128), BAD);
        DUE.is("19 -1", x.type(-1), BAD);
        for (int far : FAR) {
            DUE.is("19 far", x.type(far), BAD);
        }
        for (int k = 3; k <= 80; k++) {
            DUE.is("19 byte " + k, x.type(' '), k);
        }
        DUE.is("19 one too many", x.type(' '), FULL);
        DUE.is("19 BAD goes before FULL", x.type(128), BAD);
        row("19 told", toldAll(x), 7, 0, 1, 80, 4, 0, 0);
    }

    // Promise 20
    private static void clear() {
        RootedClasses x = new RootedClasses();
        DUE.is("20 nothing", x.clear(), 0);
        write(x, "n5;");
        DUE.is("20 three", x.clear(), 3);
        DUE.is("20 empty now", x.told(3), 0);
        DUE.is("20 nothing to read", x.reads(), -10);
        DUE.is("20 no state", x.told(6), 0);
    }

    // Promise 21
    private static void readsRight() {
        RootedClasses x = new RootedClasses();
        DUE.is("21 four orders", read(x, " n 5 ; m 1 2 3 4 0;m01243;  x0 ; "), 4);
        DUE.is("21 N", x.told(4), 5);
        DUE.is("21 generators", x.told(5), 1);
        DUE.is("21 one state for all", x.told(6), 1);
        DUE.is("21 the text stays", x.told(3), 33);
        DUE.is("21 the second move is left", x.element(1, 0), 1243);
        DUE.is("21 read again", x.reads(), 4);
        DUE.is("21 two states", x.told(6), 2);
        DUE.is("21 N as it was before", read(x, "m01234;"), 1);
        DUE.is("21 N as it is by then", read(x, "m43210;n2;m10;n3;m210;"), 5);
        DUE.is("21 order", x.of(0), 2);
        DUE.is("21 nothing changes", read(x, "m012;x1;"), 2);
        DUE.is("21 a state all the same", x.told(6), 5);
        DUE.is("21 as many as fit", read(x, "n1;n1;n1;n1;n1;n1;n1;n1;n1;n1;n1;n1;n1;n1;n1;n1;n1;n1;n1;n1;n1;n1;n1;n1;n1;m0;"), 26);
    }

    private static void readsFaults() {
        String[] texts = {"", " ", "   ", "n", "n5", "n5 ", "n;", "n0;", "n6;", "n 9;", "nn5;", "n5n5;", "n55;", ";", "n5;;",
            "N5;", "m", "m0", "m012", "m0123", "m012;", "m01234;", "m0124;", "m0012;", "m01 1;", "m012a;", "m;", "x", "x;",
            "x0", "x00;", "xx;", "x-1;", "n5;m0123;", "n2;m012;", "n3;m03;", "n4;q", "0", "n5;x0;m", "x9;q", "n5; n",
            "m0123\n;", "m0123;\t"};
        int[] places = {0, 1, 3, 1, 2, 3, 1, 1, 1, 2, 1, 2, 2, 0, 3,
            0, 1, 2, 4, 5, 4, 5, 4, 2, 4, 4, 1, 1, 1,
            2, 2, 1, 1, 8, 6, 5, 3, 0, 7, 3, 5,
            5, 6};
        RootedClasses x = new RootedClasses();
        for (int k = 0; k < texts.length; k++) {
            write(x, texts[k]);
            DUE.is("21 fault of '" + texts[k] + "'", x.reads(), -10 - places[k]);
        }
        x.clear();
        DUE.is("21 as many as places", texts.length, places.length);
        row("21 nothing is done, nothing counts", toldAll(x), 0, 0, 0, 0, 4, 0, 0);
        write(x, "                                                                                ");
        DUE.is("21 eighty blanks", x.reads(), -90);
    }

    private static void readsStops() {
        RootedClasses x = new RootedClasses();
        DUE.is("21 none to drop", read(x, "x0;"), -1000);
        DUE.is("21 the second", read(x, "m1230;x1;"), -1001);
        DUE.is("21 x 9", read(x, "m1230;x9;m0123;"), -1001);
        DUE.is("21 a fourth move", read(x, "m1230;m0123;m0123;m0123;"), -1003);
        DUE.is("21 dropped by n", read(x, "m1230;n5;x0;"), -1002);
        DUE.is("21 a fault goes before a stop", read(x, "x9;m0;"), -15);
        x.clear();
        row("21 nothing is done, nothing counts", toldAll(x), 0, 0, 0, 0, 4, 0, 0);
        x.moves(1230);
        x.moves(1230);
        DUE.is("21 by what is there", read(x, "m0123;m0123;"), -1001);
        DUE.is("21 as it was", x.told(5), 2);
        DUE.is("21 by what is there", read(x, "m0123;x2;m3210;"), 3);
        DUE.is("21 done", x.of(0), 8);
    }

    // Promise 22
    private static void back() {
        RootedClasses x = new RootedClasses();
        DUE.is("22 none", x.back(), NO);
        x.moves(1230);
        x.moves(123);
        x.drops(0);
        x.points(2);
        DUE.is("22 to three", x.back(), 3);
        row("22 told", toldAll(x), 0, 1, 0, 0, 4, 1, 3);
        DUE.is("22 the move that was left", x.of(0), 1);
        DUE.is("22 to two", x.back(), 2);
        DUE.is("22 both again", x.of(0), 4);
        x.points(5);
        x.points(5);
        x.points(5);
        x.points(5);
        DUE.is("22 five at most", x.told(6), 5);
        for (int left = 4; left >= 0; left--) {
            DUE.is("22 back", x.back(), left);
        }
        DUE.is("22 older ones are lost", x.told(5), 1);
        DUE.is("22 no more", x.back(), NO);
        write(x, "n3;");
        x.reads();
        x.back();
        DUE.is("22 the text stays", x.told(3), 3);
        DUE.is("22 how often refused stays", x.told(1), 2);
        DUE.is("22 refused calls leave none", x.points(9), BAD);
        DUE.is("22 none", x.back(), NO);
    }

    // Promise 23
    private static void told() {
        RootedClasses x = new RootedClasses();
        DUE.is("23 told 7", x.told(7), BAD);
        for (int what : FAR) {
            DUE.is("23 told " + what, x.told(what), BAD);
        }
        x.back();
        x.turned(0, 1);
        write(x, "m0123;m0123;m0123;");
        x.reads();
        x.moves(123);
        x.moves(123);
        row("23 told", toldAll(x), 6, 1, 2, 18, 4, 3, 1);
    }

    // Promise 24
    private static void digest() {
        RootedClasses x = new RootedClasses();
        long h = 2447;
        int[] all = {0, 0, 0, 0, 4, 0, 0, 1, 1, 1, 11, 1, 0, 1, 1, 1, 1, 0, 0, 0, 4, 1, 1, 1};
        for (int v : all) {
            h = 31 * h + v;
        }
        DUE.is("24 a new object", x.digest(), h);
        DUE.is("24 it changes nothing", x.digest(), h);
        x.moves(1230);
        x.moves(1023);
        x.turned(3, 2);
        DUE.is("24 all of four", x.digest(), 1481624886418121534L);
        x.of(9);
        x.back();
        x.back();
        h = 2447;
        all[0] = 1;
        all[1] = 1;
        for (int v : all) {
            h = 31 * h + v;
        }
        DUE.is("24 how often refused is in it", x.digest(), h);
    }
}
