import java.util.ArrayList;
import java.util.List;
import java.util.Random;

/** Promises 1 to 24: long runs of mixed calls, right and wrong ones, beside a model of the document. */
public final class RandomRunsTest {
    private static final Due DUE = new Due();
    private static final int BAD = RootedClasses.BAD, NO = RootedClasses.NO, FULL = RootedClasses.FULL;

    private static final int MOST_CALLS = 512;

    private final RootedClasses x = new RootedClasses();
    private final Random random;
    private int points = 4;
    private List<Integer> generators = new ArrayList<>();
    private final List<int[]> pastPoints = new ArrayList<>();
    private final List<List<Integer>> pastGenerators = new ArrayList<>();
    private final int[] refused = new int[3];
    private String text = "";

    private RandomRunsTest(long seed) {
        random = new Random(seed);
    }

    public static void main(String[] args) {
        for (long seed = 1; seed <= 400; seed++) {
            RandomRunsTest run = new RandomRunsTest(seed);
            int calls = 0;
            // a step is 83 calls at most: a text of up to 80 bytes, cleared before, read behind
            while (calls < MOST_CALLS - 83) {
                calls += run.step("seed " + seed + " call " + calls + " ");
            }
            while (calls < MOST_CALLS) {
                run.asksMoves("seed " + seed + " call " + calls + " ");
                calls++;
            }
        }
        DUE.end("RandomRunsTest");
    }

    private int step(String at) {
        switch (random.nextInt(12)) {
            case 0:
                return changes(at);
            case 1:
                return writes(at);
            case 2:
                DUE.is(at + "back", x.back(), back());
                return 1;
            case 3:
                int what = random.nextInt(9) - 1;
                DUE.is(at + "told " + what, x.told(what), what < 0 || what > 6 ? refuse(BAD) : told()[what]);
                return 1;
            case 4:
                DUE.is(at + "digest", x.digest(), oracle().digest(told()));
                return 1;
            case 5:
            case 6:
            case 7:
                asksMoves(at);
                return 1;
            default:
                asksRows(at);
                return 1;
        }
    }

    private int refuse(int why) {
        refused[-2 - why]++;
        return why;
    }

    private int[] told() {
        return new int[] {refused[0], refused[1], refused[2], text.length(), points, generators.size(), pastPoints.size()};
    }

    private Oracle oracle() {
        return Oracle.of(points, generators);
    }

    private void leaveState() {
        pastPoints.add(new int[] {points});
        pastGenerators.add(new ArrayList<>(generators));
        if (pastPoints.size() > 5) {
            pastPoints.remove(0);
            pastGenerators.remove(0);
        }
    }

    private int back() {
        int last = pastPoints.size() - 1;
        if (last < 0) {
            return refuse(NO);
        }
        points = pastPoints.remove(last)[0];
        generators = pastGenerators.remove(last);
        return last;
    }

    // ---- N and GENERATORS

    private int changes(String at) {
        int kind = random.nextInt(6);
        if (kind == 0) {
            int n = random.nextInt(8) - 1;
            if (n < 1 || n > 5) {
                DUE.is(at + "points " + n, x.points(n), refuse(BAD));
            } else {
                leaveState();
                DUE.is(at + "points " + n, x.points(n), points);
                points = n;
                generators = new ArrayList<>();
            }
        } else if (kind == 1) {
            int i = random.nextInt(5) - 1;
            if (i < 0 || i >= generators.size()) {
                DUE.is(at + "drops " + i, x.drops(i), refuse(BAD));
            } else {
                leaveState();
                generators.remove(i);
                DUE.is(at + "drops " + i, x.drops(i), generators.size());
            }
        } else {
            int code = random.nextInt(4) == 0 ? random.nextInt(60000) - 100 : someMove();
            if (!isMove(code)) {
                DUE.is(at + "moves " + code, x.moves(code), refuse(BAD));
            } else if (generators.size() == 3) {
                DUE.is(at + "moves " + code, x.moves(code), refuse(FULL));
            } else {
                leaveState();
                generators.add(code);
                DUE.is(at + "moves " + code, x.moves(code), generators.size() - 1);
            }
        }
        return 1;
    }

    private int someMove() {
        String rest = "01234".substring(0, points);
        String code = "";
        while (!rest.isEmpty()) {
            int p = random.nextInt(rest.length());
            code += rest.charAt(p);
            rest = rest.substring(0, p) + rest.substring(p + 1);
        }
        return Integer.parseInt(code);
    }

    private boolean isMove(int code) {
        if (code < 0) {
            return false;
        }
        String told = Oracle.figures(code, points);
        boolean is = told.length() == points;
        for (int p = 0; p < points; p++) {
            is = is && told.indexOf('0' + p) >= 0;
        }
        return is;
    }

    // ---- THE TEXT

    private int writes(String at) {
        int calls = 0;
        if (random.nextInt(4) != 0) {
            DUE.is(at + "clear", x.clear(), text.length());
            text = "";
            calls++;
        }
        String more = someText();
        for (int k = 0; k < more.length(); k++) {
            type(at, more.charAt(k));
            calls++;
        }
        if (random.nextInt(5) == 0) {
            type(at, new int[] {-1, 128, 1 << 20, Integer.MIN_VALUE, 0, 127}[random.nextInt(6)]);
            calls++;
        }
        String before = "'" + text + "' ";
        DUE.is(at + before + "reads", x.reads(), reads());
        return calls + 1;
    }

    private void type(String at, int c) {
        int want;
        if (c < 0 || c > 127) {
            want = refuse(BAD);
        } else if (text.length() == 80) {
            want = refuse(FULL);
        } else {
            text += (char) c;
            want = text.length();
        }
        DUE.is(at + "type " + c, x.type(c), want);
    }

    private String someText() {
        StringBuilder made = new StringBuilder();
        int then = points;
        int orders = random.nextInt(6);
        for (int o = 0; o < orders; o++) {
            int kind = random.nextInt(4);
            if (kind == 0) {
                then = 1 + random.nextInt(5);
                made.append('n').append(then);
            } else if (kind == 1) {
                made.append('x').append(random.nextInt(3));
            } else {
                int was = points;
                points = then;
                made.append('m').append(Oracle.figures(someMove(), then));
                points = was;
            }
            made.append(';');
        }
        int blanks = random.nextInt(4);
        for (int b = 0; b < blanks; b++) {
            made.insert(random.nextInt(made.length() + 1), ' ');
        }
        if (random.nextInt(3) == 0) {
            int at = random.nextInt(made.length() + 1);
            if (random.nextBoolean() && at < made.length()) {
                made.deleteCharAt(at);
            } else {
                made.insert(at, "nmx;0123456789 q".charAt(random.nextInt(16)));
            }
        }
        return made.toString();
    }

    /** Reads by what may stand next: a list of the signs that are due, taken from the front. */
    private int reads() {
        int then = points;
        List<String> orders = new ArrayList<>();
        String order = "";
        for (int place = 0; place < text.length(); place++) {
            char c = text.charAt(place);
            if (c == ' ') {
                continue;
            }
            if (mayStand(then, order).indexOf(c) < 0) {
                return -10 - place;
            }
            if (c == ';') {
                orders.add(order);
                then = order.charAt(0) == 'n' ? order.charAt(1) - '0' : then;
                order = "";
            } else {
                order += c;
            }
        }
        if (!order.isEmpty() || orders.isEmpty()) {
            return -10 - text.length();
        }
        return obey(orders);
    }

    private static String mayStand(int then, String order) {
        if (order.isEmpty()) {
            return "nmx";
        }
        if (order.charAt(0) == 'm' && order.length() <= then) {
            String free = "01234".substring(0, then);
            for (int k = 1; k < order.length(); k++) {
                free = free.replace(order.substring(k, k + 1), "");
            }
            return free;
        }
        if (order.length() == 1) {
            return order.equals("n") ? "12345" : "0123456789";
        }
        return ";";
    }

    private int obey(List<String> orders) {
        int n = points;
        List<Integer> made = new ArrayList<>(generators);
        for (int o = 0; o < orders.size(); o++) {
            int number = Integer.parseInt(orders.get(o).substring(1));
            char kind = orders.get(o).charAt(0);
            if (kind == 'n') {
                n = number;
                made.clear();
            } else if (kind == 'm' && made.size() < 3) {
                made.add(number);
            } else if (kind == 'x' && number < made.size()) {
                made.remove(number);
            } else {
                return -1000 - o;
            }
        }
        leaveState();
        points = n;
        generators = made;
        return orders.size();
    }

    // ---- questions

    private int about(int bound) {
        int kind = random.nextInt(40);
        return kind == 0 ? -1 : kind == 1 ? bound : kind == 2 ? Integer.MIN_VALUE : kind == 3 ? Integer.MAX_VALUE
            : random.nextInt(bound);
    }

    private static boolean in(int bound, int... all) {
        boolean is = true;
        for (int i : all) {
            is = is && i >= 0 && i < bound;
        }
        return is;
    }

    private void asksMoves(String at) {
        Oracle o = oracle();
        int order = o.elements.size();
        int a = about(order);
        int b = about(order);
        int i = about(o.sorts);
        int j = about(o.sorts);
        int k = about(o.sorts);
        switch (random.nextInt(5)) {
            case 0:
                int w = about(8);
                DUE.is(at + "of " + w, x.of(w), in(8, w) ? o.whole(w) : refuse(BAD));
                return;
            case 1:
                int e = about(4);
                DUE.is(at + "element " + a + " " + e, x.element(a, e),
                    in(order, a) && in(4, e) ? o.elementAnswer(a, e) : refuse(BAD));
                return;
            case 2:
                DUE.is(at + "product " + a + " " + b, x.product(a, b), in(order, a, b) ? o.product(a, b) : refuse(BAD));
                return;
            case 3:
                int s = about(6);
                DUE.is(at + "sort " + i + " " + s, x.sort(i, s),
                    in(o.sorts, i) && in(6, s) ? o.sortAnswer(i, s) : refuse(BAD));
                return;
            default:
                DUE.is(at + "times " + i + " " + j + " " + k, x.times(i, j, k),
                    in(o.sorts, i, j, k) ? o.times[i][j][k] : refuse(BAD));
        }
    }

    private void asksRows(String at) {
        Oracle o = oracle();
        int n = o.sorts;
        int r = about(n);
        int s = about(n);
        int t = about(n);
        String one = " " + r;
        String two = one + " " + s;
        String three = two + " " + t;
        switch (random.nextInt(9)) {
            case 0:
                DUE.is(at + "degree" + one, x.degree(r), in(n, r) ? o.degree[r] : refuse(BAD));
                return;
            case 1:
                DUE.is(at + "value" + two, x.value(r, s), in(n, r, s) ? o.value[r][s] : refuse(BAD));
                return;
            case 2:
                DUE.is(at + "spread" + two, x.spread(r, s), in(n, r, s) ? o.spread[r][s] : refuse(BAD));
                return;
            case 3:
                int m = about(in(n, s) ? o.turn[s] : 3);
                DUE.is(at + "part" + two + " " + m, x.part(r, s, m),
                    in(n, r, s) && in(o.turn[s], m) ? o.part(r, s, m) : refuse(BAD));
                return;
            case 4:
                DUE.is(at + "mirror" + one, x.mirror(r), in(n, r) ? o.mirror(r) : refuse(BAD));
                return;
            case 5:
                DUE.is(at + "blind" + one, x.blind(r), in(n, r) ? o.blind(r) : refuse(BAD));
                return;
            case 6:
                DUE.is(at + "within" + three, x.within(r, s, t),
                    in(n, r, s, t) ? o.meet(o.rowProduct(r, s), o.value[t]) : refuse(BAD));
                return;
            case 7:
                DUE.is(at + "natural" + one, x.natural(r), in(n, r) ? o.meet(o.left, o.value[r]) : refuse(BAD));
                return;
            default:
                DUE.is(at + "turned" + two, x.turned(r, s),
                    !in(n, r, s) ? refuse(BAD) : o.degree[s] != 1 ? refuse(NO) : o.turned(r, s));
        }
    }
}
