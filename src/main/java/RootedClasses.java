import java.util.Arrays;

/**
 * Moves of one to five points, all ELEMENTS that they make together, their SORTS, and
 * their ROWS of numbers by a prime. The words in capitals are those of the document.
 */
public final class RootedClasses {

    public static final int NONE = -1, BAD = -2, NO = -3, FULL = -4;

    private static final int MOST_POINTS = 5;
    private static final int MOST_GENERATORS = 3;
    private static final int MOST_ELEMENTS = 120;
    // Four figures of 0 to 4: the fifth is what they leave.
    private static final int KEYS = 625;
    // The next three are what five points allow; EveryGroupTest goes through all groups.
    private static final int MOST_SORTS = 7;
    private static final int MOST_TURN = 6;
    private static final int MOST_PRIME = 61;
    private static final int MOST_STATES = 5;
    private static final int MOST_BYTES = 80;
    private static final int MOST_ORDERS = 27;
    private static final int BLANK = 32;
    private static final int FAULT_ANSWER = -10;
    private static final int STOP_ANSWER = -1000;

    private static final int WHOLES = 8;
    private static final int ELEMENT_QUESTIONS = 4;
    private static final int SORT_QUESTIONS = 6;
    private static final int TOLD_QUESTIONS = 7;
    private static final int ROWS_OF_DEGREE_ONE = 7;

    private final Setting now = new Setting();
    private final Setting trial = new Setting();
    private final Past past = new Past();
    private final Script script = new Script();
    private final Rows rows = new Rows();
    private final int[] refusals = new int[3];
    // Both are false while the GENERATORS may be others than those last reckoned with.
    private boolean sortsKnown = false;
    private boolean rowsKnown = false;

    public RootedClasses() {
    }

    // ---- moves

    public int points(int n) {
        trial.copyFrom(now);
        return settled(trial.setPoints(n));
    }

    public int moves(int code) {
        trial.copyFrom(now);
        return settled(trial.addGenerator(code));
    }

    public int drops(int i) {
        trial.copyFrom(now);
        return settled(trial.dropGenerator(i));
    }

    public int of(int what) {
        if (!isBelow(what, WHOLES)) {
            return refused(BAD);
        }
        if (what == ROWS_OF_DEGREE_ONE) {
            learnRows();
        } else {
            learnSorts();
        }
        return wholeAnswer(what);
    }

    public int element(int i, int what) {
        learnSorts();
        Elements elements = rows.sorts.elements;
        if (!isBelow(i, elements.order) || !isBelow(what, ELEMENT_QUESTIONS)) {
            return refused(BAD);
        }
        switch (what) {
            case 0:
                return elements.codes[i];
            case 1:
                return rows.sorts.sortOf[i];
            case 2:
                return elements.inverses[i];
            default:
                return rows.sorts.turns[rows.sorts.sortOf[i]];
        }
    }

    public int product(int x, int y) {
        learnSorts();
        Elements elements = rows.sorts.elements;
        if (!isBelow(x, elements.order) || !isBelow(y, elements.order)) {
            return refused(BAD);
        }
        return elements.multiplied(x, y);
    }

    public int sort(int i, int what) {
        learnSorts();
        if (!isBelow(i, rows.sorts.count) || !isBelow(what, SORT_QUESTIONS)) {
            return refused(BAD);
        }
        return sortAnswer(i, what);
    }

    public int times(int i, int j, int k) {
        learnSorts();
        int count = rows.sorts.count;
        if (!isBelow(i, count) || !isBelow(j, count) || !isBelow(k, count)) {
            return refused(BAD);
        }
        return rows.sorts.pairs[Sorts.pairPlace(i, j, k)];
    }

    // ---- rows

    public int degree(int r) {
        learnRows();
        if (!isBelow(r, rows.count)) {
            return refused(BAD);
        }
        return rows.degrees[r];
    }

    public int value(int r, int i) {
        learnRows();
        if (!isBelow(r, rows.count) || !isBelow(i, rows.count)) {
            return refused(BAD);
        }
        return rows.values[r][i];
    }

    public int spread(int r, int i) {
        learnRows();
        if (!isBelow(r, rows.count) || !isBelow(i, rows.count)) {
            return refused(BAD);
        }
        return rows.spreads[r][i];
    }

    public int part(int r, int i, int m) {
        learnRows();
        if (!isBelow(r, rows.count) || !isBelow(i, rows.count)) {
            return refused(BAD);
        }
        if (!isBelow(m, rows.sorts.turns[i])) {
            return refused(BAD);
        }
        return rows.rootCount(r, i, m);
    }

    public int mirror(int r) {
        learnRows();
        if (!isBelow(r, rows.count)) {
            return refused(BAD);
        }
        return rows.mirrorSign(r);
    }

    public int blind(int r) {
        learnRows();
        if (!isBelow(r, rows.count)) {
            return refused(BAD);
        }
        return rows.blindBits(r);
    }

    public int within(int r, int s, int t) {
        learnRows();
        if (!isBelow(r, rows.count) || !isBelow(s, rows.count) || !isBelow(t, rows.count)) {
            return refused(BAD);
        }
        rows.multiplyRows(r, s);
        return rows.meet(rows.multiplied, rows.values[t]);
    }

    public int natural(int t) {
        learnRows();
        if (!isBelow(t, rows.count)) {
            return refused(BAD);
        }
        return rows.meet(rows.sorts.pointsLeft, rows.values[t]);
    }

    public int turned(int r, int s) {
        learnRows();
        if (!isBelow(r, rows.count) || !isBelow(s, rows.count)) {
            return refused(BAD);
        }
        if (rows.degrees[s] != 1) {
            return refused(NO);
        }
        rows.multiplyRows(r, s);
        return rows.rowLike(rows.multiplied);
    }

    // ---- texts

    public int type(int c) {
        int length = script.append(c);
        return length < 0 ? refused(length) : length;
    }

    public int clear() {
        return script.empty();
    }

    public int reads() {
        trial.copyFrom(now);
        int done = script.carryOut(trial);
        // What a text tells wrongly is answered, but never counted.
        return done < 0 ? done : settled(done);
    }

    public int back() {
        if (past.count == 0) {
            return refused(NO);
        }
        past.restore(now);
        forgetReckoned();
        return past.count;
    }

    public int told(int what) {
        switch (what) {
            case 0:
            case 1:
            case 2:
                return refusals[what];
            case 3:
                return script.length;
            case 4:
                return now.points;
            case 5:
                return now.count;
            case 6:
                return past.count;
            default:
                return refused(BAD);
        }
    }

    public long digest() {
        learnRows();
        long h = 2447;
        for (int what = 0; what < TOLD_QUESTIONS; what++) {
            h = 31 * h + told(what);
        }
        for (int what = 0; what < WHOLES; what++) {
            h = 31 * h + wholeAnswer(what);
        }
        for (int i = 0; i < rows.sorts.count; i++) {
            for (int what = 0; what < SORT_QUESTIONS; what++) {
                h = 31 * h + sortAnswer(i, what);
            }
        }
        for (int r = 0; r < rows.count; r++) {
            h = 31 * h + rows.degrees[r];
            for (int i = 0; i < rows.count; i++) {
                h = 31 * h + rows.values[r][i];
            }
            h = 31 * h + rows.mirrorSign(r);
        }
        return h;
    }

    // ---- what the calls share

    private static boolean isBelow(int i, int bound) {
        return i >= 0 && i < bound;
    }

    private int refused(int why) {
        int kind = BAD - why;
        if (isBelow(kind, refusals.length)) {
            refusals[kind]++;
        }
        return why;
    }

    /** Takes the trial over as a new STATE, unless its answer tells that it was refused. */
    private int settled(int answer) {
        if (answer < 0) {
            return refused(answer);
        }
        past.keep(now);
        now.copyFrom(trial);
        forgetReckoned();
        return answer;
    }

    private void forgetReckoned() {
        sortsKnown = false;
        rowsKnown = false;
    }

    private void learnSorts() {
        if (!sortsKnown) {
            rows.sorts.elements.build(now);
            rows.sorts.takeApart();
            rows.sorts.describe();
            rows.prime.choose(rows.sorts.elements.order, rows.sorts.exponent);
            sortsKnown = true;
        }
    }

    private void learnRows() {
        learnSorts();
        if (!rowsKnown) {
            rows.build();
            rowsKnown = true;
        }
    }

    private int wholeAnswer(int what) {
        switch (what) {
            case 0:
                return rows.sorts.elements.order;
            case 1:
                return rows.sorts.count;
            case 2:
                return rows.sorts.exponent;
            case 3:
                return rows.prime.p;
            case 4:
                return rows.prime.root;
            case 5:
                return now.count;
            case 6:
                return rows.sorts.countAlone();
            default:
                return rows.countOfDegreeOne();
        }
    }

    private int sortAnswer(int i, int what) {
        Sorts sorts = rows.sorts;
        switch (what) {
            case 0:
                return sorts.sizes[i];
            case 1:
                return sorts.turns[i];
            case 2:
                return sorts.leasts[i];
            case 3:
                return sorts.inverses[i];
            case 4:
                return sorts.powerSort(i, 2);
            default:
                return sorts.pointsLeft[i];
        }
    }

    /** N and the GENERATORS: what a STATE is. */
    private static final class Setting {
        int points = 4;
        int count = 0;
        final int[] codes = new int[MOST_GENERATORS];

        void copyFrom(Setting other) {
            points = other.points;
            count = other.count;
            for (int g = 0; g < MOST_GENERATORS; g++) {
                codes[g] = other.codes[g];
            }
        }

        int setPoints(int n) {
            if (n < 1 || n > MOST_POINTS) {
                return BAD;
            }
            int was = points;
            points = n;
            count = 0;
            return was;
        }

        int addGenerator(int code) {
            if (!isMove(code)) {
                return BAD;
            }
            if (count >= MOST_GENERATORS) {
                return FULL;
            }
            codes[count] = code;
            count++;
            return count - 1;
        }

        int dropGenerator(int i) {
            if (!isBelow(i, count)) {
                return BAD;
            }
            for (int g = i + 1; g < count; g++) {
                codes[g - 1] = codes[g];
            }
            count--;
            return count;
        }

        private boolean isMove(int code) {
            if (code < 0) {
                return false;
            }
            int rest = code;
            int seen = 0;
            for (int p = 0; p < points; p++) {
                int figure = rest % 10;
                if (figure >= points || (seen >> figure & 1) != 0) {
                    return false;
                }
                seen |= 1 << figure;
                rest /= 10;
            }
            return rest == 0;
        }
    }

    /** The STATES to go back to, the oldest first. */
    private static final class Past {
        int count = 0;
        private final Setting[] states = new Setting[MOST_STATES];

        Past() {
            for (int s = 0; s < MOST_STATES; s++) {
                states[s] = new Setting();
            }
        }

        void keep(Setting setting) {
            if (count >= MOST_STATES) {
                loseOldest();
            }
            states[count].copyFrom(setting);
            count++;
        }

        void restore(Setting setting) {
            if (count > 0) {
                count--;
                setting.copyFrom(states[count]);
            }
        }

        private void loseOldest() {
            Setting oldest = states[0];
            for (int s = 1; s < MOST_STATES; s++) {
                states[s - 1] = states[s];
            }
            // The lost one's place is used again, so that no call makes an object.
            states[MOST_STATES - 1] = oldest;
            count = MOST_STATES - 1;
        }
    }

    /** THE TEXT and the ORDERS that it tells. */
    private static final class Script {
        int length = 0;
        private final int[] bytes = new int[MOST_BYTES];
        private final int[] kinds = new int[MOST_ORDERS];
        private final int[] numbers = new int[MOST_ORDERS];
        private int orders = 0;
        // Where the reading stands within an ORDER; kind is 0 between two of them.
        private int kind = 0;
        private int number = 0;
        private int figuresDue = 0;
        private int figuresSeen = 0;
        private int pointsThen = 0;

        int append(int c) {
            if (!isBelow(c, 128)) {
                return BAD;
            }
            if (length >= MOST_BYTES) {
                return FULL;
            }
            bytes[length] = c;
            length++;
            return length;
        }

        int empty() {
            int had = length;
            length = 0;
            return had;
        }

        /** Does all ORDERS to the setting: how many, or below 0 what kept them from being done. */
        int carryOut(Setting setting) {
            int fault = findFault(setting.points);
            if (fault != NONE) {
                return FAULT_ANSWER - fault;
            }
            for (int o = 0; o < orders; o++) {
                if (obey(setting, kinds[o], numbers[o]) < 0) {
                    return STOP_ANSWER - o;
                }
            }
            return orders;
        }

        private static int obey(Setting setting, int kind, int number) {
            switch (kind) {
                case 'n':
                    return setting.setPoints(number);
                case 'm':
                    return setting.addGenerator(number);
                default:
                    return setting.dropGenerator(number);
            }
        }

        private int findFault(int points) {
            orders = 0;
            kind = 0;
            pointsThen = points;
            for (int place = 0; place < length; place++) {
                int c = bytes[place];
                if (c != BLANK && !takes(c)) {
                    return place;
                }
            }
            return kind == 0 && orders > 0 ? NONE : length;
        }

        private boolean takes(int c) {
            if (kind == 0) {
                return opens(c);
            }
            return figuresDue > 0 ? takesFigure(c - '0') : closes(c);
        }

        private boolean opens(int c) {
            if (c != 'n' && c != 'm' && c != 'x') {
                return false;
            }
            kind = c;
            number = 0;
            figuresDue = c == 'm' ? pointsThen : 1;
            figuresSeen = 0;
            return true;
        }

        private boolean takesFigure(int figure) {
            if (!isBelow(figure, 10)) {
                return false;
            }
            if (kind == 'n' && (figure < 1 || figure > MOST_POINTS)) {
                return false;
            }
            if (kind == 'm' && (figure >= pointsThen || (figuresSeen >> figure & 1) != 0)) {
                return false;
            }
            figuresSeen |= 1 << figure;
            number = 10 * number + figure;
            figuresDue--;
            return true;
        }

        private boolean closes(int c) {
            if (c != ';' || orders >= MOST_ORDERS) {
                return false;
            }
            kinds[orders] = kind;
            numbers[orders] = number;
            orders++;
            if (kind == 'n') {
                pointsThen = number;
            }
            kind = 0;
            return true;
        }
    }

    /**
     * All ELEMENTS in order. A MOVE is found by its key, a number of all its figures but the last;
     * of two MOVES the one with the lesser number has the lesser key.
     */
    private static final class Elements {
        int order = 0;
        final int[] codes = new int[MOST_ELEMENTS];
        final int[] inverses = new int[MOST_ELEMENTS];
        private int points = 1;
        private final int[] figures = new int[MOST_ELEMENTS * MOST_POINTS];
        private final int[] generators = new int[MOST_GENERATORS * MOST_POINTS];
        private final int[] codeAtKey = new int[KEYS];
        private final int[] placeAtKey = new int[KEYS];
        private final int[] made = new int[MOST_POINTS];

        void build(Setting setting) {
            points = setting.points;
            for (int g = 0; g < setting.count; g++) {
                spell(setting.codes[g], generators, g * MOST_POINTS);
            }
            makeAll(setting.count);
            putInOrder();
            findInverses();
        }

        int multiplied(int x, int y) {
            for (int p = 0; p < points; p++) {
                made[p] = figures[y * MOST_POINTS + figures[x * MOST_POINTS + p]];
            }
            return placeOfMade();
        }

        /** z x (INVERSE of z). */
        int movedBy(int z, int x) {
            int inverse = inverses[z];
            for (int p = 0; p < points; p++) {
                int q = figures[x * MOST_POINTS + figures[z * MOST_POINTS + p]];
                made[p] = figures[inverse * MOST_POINTS + q];
            }
            return placeOfMade();
        }

        int pointsLeft(int x) {
            int left = 0;
            for (int p = 0; p < points; p++) {
                if (figures[x * MOST_POINTS + p] == p) {
                    left++;
                }
            }
            return left;
        }

        /** No INVERSES are needed here: each is one of the POWERS. */
        private void makeAll(int generatorCount) {
            Arrays.fill(codeAtKey, NONE);
            order = 0;
            for (int p = 0; p < points; p++) {
                made[p] = p;
            }
            addMade();
            for (int x = 0; x < order && x < MOST_ELEMENTS; x++) {
                for (int g = 0; g < generatorCount; g++) {
                    for (int p = 0; p < points; p++) {
                        made[p] = generators[g * MOST_POINTS + figures[x * MOST_POINTS + p]];
                    }
                    addMade();
                }
            }
        }

        private void addMade() {
            int key = keyOfMade();
            if (!isBelow(key, KEYS) || codeAtKey[key] != NONE || order >= MOST_ELEMENTS) {
                return;
            }
            int code = 0;
            for (int p = 0; p < points; p++) {
                figures[order * MOST_POINTS + p] = made[p];
                code = 10 * code + made[p];
            }
            codeAtKey[key] = code;
            order++;
        }

        private void putInOrder() {
            int place = 0;
            for (int key = 0; key < KEYS && place < order; key++) {
                if (codeAtKey[key] != NONE) {
                    placeAtKey[key] = place;
                    codes[place] = codeAtKey[key];
                    spell(codes[place], figures, place * MOST_POINTS);
                    place++;
                }
            }
        }

        private void findInverses() {
            for (int x = 0; x < order; x++) {
                for (int p = 0; p < points; p++) {
                    made[figures[x * MOST_POINTS + p]] = p;
                }
                inverses[x] = placeOfMade();
            }
        }

        private void spell(int code, int[] into, int from) {
            int rest = code;
            for (int p = points - 1; p >= 0; p--) {
                into[from + p] = rest % 10;
                rest /= 10;
            }
        }

        /** The MOVE that was made is an ELEMENT: their products are ELEMENTS, too. */
        private int placeOfMade() {
            int key = keyOfMade();
            return isBelow(key, KEYS) ? placeAtKey[key] : 0;
        }

        private int keyOfMade() {
            int key = 0;
            for (int p = 0; p < points - 1; p++) {
                key = MOST_POINTS * key + made[p];
            }
            return key;
        }
    }

    /** The SORTS of the ELEMENTS, and TIMES. */
    private static final class Sorts {
        final Elements elements = new Elements();
        int count = 0;
        int exponent = 1;
        final int[] sortOf = new int[MOST_ELEMENTS];
        final int[] sizes = new int[MOST_SORTS];
        final int[] turns = new int[MOST_SORTS];
        final int[] leasts = new int[MOST_SORTS];
        final int[] inverses = new int[MOST_SORTS];
        final int[] pointsLeft = new int[MOST_SORTS];
        final int[] pairs = new int[MOST_SORTS * MOST_SORTS * MOST_SORTS];
        private final int[] powers = new int[MOST_SORTS * MOST_TURN];

        static int pairPlace(int i, int j, int k) {
            return (i * MOST_SORTS + j) * MOST_SORTS + k;
        }

        void takeApart() {
            Arrays.fill(sortOf, NONE);
            count = 0;
            for (int x = 0; x < elements.order; x++) {
                if (sortOf[x] == NONE && count < MOST_SORTS) {
                    leasts[count] = x;
                    sizes[count] = gather(x, count);
                    count++;
                }
            }
        }

        void describe() {
            exponent = 1;
            for (int i = 0; i < count; i++) {
                inverses[i] = sortOf[elements.inverses[leasts[i]]];
                pointsLeft[i] = elements.pointsLeft(leasts[i]);
                findPowers(i);
                exponent = leastShared(exponent, turns[i]);
            }
            countPairs();
        }

        int countAlone() {
            int alone = 0;
            for (int i = 0; i < count; i++) {
                if (sizes[i] == 1) {
                    alone++;
                }
            }
            return alone;
        }

        /** The SORT of j-th POWERS of a SORT's ELEMENTS, j being 0 or above. */
        int powerSort(int i, int j) {
            return turns[i] > 0 ? powers[i * MOST_TURN + j % turns[i]] : 0;
        }

        private int gather(int x, int sort) {
            int size = 0;
            for (int z = 0; z < elements.order; z++) {
                int like = elements.movedBy(z, x);
                if (sortOf[like] == NONE) {
                    sortOf[like] = sort;
                    size++;
                }
            }
            return size;
        }

        private void findPowers(int i) {
            int power = 0;
            turns[i] = 0;
            for (int j = 0; j < MOST_TURN && (j == 0 || power != 0); j++) {
                powers[i * MOST_TURN + j] = sortOf[power];
                power = elements.multiplied(power, leasts[i]);
                turns[i] = j + 1;
            }
        }

        private static int leastShared(int a, int b) {
            int shared = a;
            for (int n = 1; n < b && b > 0 && shared % b != 0; n++) {
                shared += a;
            }
            return shared;
        }

        private void countPairs() {
            Arrays.fill(pairs, 0);
            for (int k = 0; k < count; k++) {
                for (int x = 0; x < elements.order; x++) {
                    int y = elements.multiplied(elements.inverses[x], leasts[k]);
                    pairs[pairPlace(sortOf[x], sortOf[y], k)]++;
                }
            }
        }
    }

    /** P, what divides by it, and the POWERS of ROOT. */
    private static final class Prime {
        int p = MOST_PRIME;
        int root = 1;
        // over[a] times a is 1, for a from 1 to P less 1.
        final int[] over = new int[MOST_PRIME];
        final int[] rootPowers = new int[MOST_PRIME];

        void choose(int order, int exponent) {
            int step = Math.max(1, exponent);
            p = MOST_PRIME;
            for (int n = MOST_PRIME; n > 7; n--) {
                if ((n - 1) % step == 0 && n * n > 4 * order && isPrime(n)) {
                    p = n;
                }
            }
            findOver();
            root = powerOf(leastMaker(), (p - 1) / step);
            rootPowers[0] = 1;
            for (int e = 1; e < step && e < MOST_PRIME; e++) {
                rootPowers[e] = left(rootPowers[e - 1] * root);
            }
        }

        /** What is left of a by P, from 0 on also for an a below 0. */
        int left(int a) {
            int rest = p > 0 ? a % p : 0;
            return rest < 0 ? rest + p : rest;
        }

        /** a by b, b not being 0 by P. */
        int divided(int a, int b) {
            return left(left(a) * over[left(b)]);
        }

        private static boolean isPrime(int n) {
            for (int d = 2; d * d <= n; d++) {
                if (n % d == 0) {
                    return false;
                }
            }
            return n > 1;
        }

        private void findOver() {
            over[0] = 0;
            over[1] = 1;
            for (int a = 2; a < p; a++) {
                over[a] = left((p - p / a) * over[p % a]);
            }
        }

        private int powerOf(int base, int n) {
            int power = 1;
            for (int e = 0; e < n; e++) {
                power = left(power * base);
            }
            return power;
        }

        private int leastMaker() {
            for (int g = 1; g < p; g++) {
                int power = g;
                int turn = 1;
                while (power != 1 && turn < p) {
                    power = left(power * g);
                    turn++;
                }
                if (turn == p - 1) {
                    return g;
                }
            }
            return 1;
        }
    }

    /**
     * Takes the space of all rows of numbers apart into the lines of the SPREADS: a SPREAD is
     * what each SORT's table of TIMES only multiplies, by w of that SORT.
     */
    private static final class Spaces {
        // The lines of all spaces, one space behind the other; starts tell where each begins.
        private int[][] lines = new int[MOST_SORTS][MOST_SORTS];
        private int[][] nextLines = new int[MOST_SORTS][MOST_SORTS];
        private int[] starts = new int[MOST_SORTS + 1];
        private int[] nextStarts = new int[MOST_SORTS + 1];
        private int spaces = 0;
        private int nextSpaces = 0;
        private int nextCount = 0;
        private int width = 0;
        private final int[][] action = new int[MOST_SORTS][MOST_SORTS];
        private final int[][] work = new int[MOST_SORTS][MOST_SORTS];
        private final int[] pivots = new int[MOST_SORTS];
        private final int[] mix = new int[MOST_SORTS];

        void takeApart(Sorts sorts, Prime prime) {
            begin(sorts.count);
            for (int i = 1; i < width && spaces < width; i++) {
                nextSpaces = 0;
                nextCount = 0;
                for (int s = 0; s < spaces; s++) {
                    splitSpace(s, i, sorts, prime);
                }
                takeNext();
            }
        }

        /** The line r as a SPREAD: w(0) is 1. */
        void copyLine(int r, int[] into, Prime prime) {
            for (int i = 0; i < width; i++) {
                into[i] = prime.divided(lines[r][i], lines[r][0]);
            }
        }

        private void begin(int sorts) {
            width = sorts;
            for (int r = 0; r < width; r++) {
                Arrays.fill(lines[r], 0);
                lines[r][r] = 1;
            }
            spaces = 1;
            starts[0] = 0;
            starts[1] = width;
        }

        private void takeNext() {
            int[][] oldLines = lines;
            lines = nextLines;
            nextLines = oldLines;
            int[] oldStarts = starts;
            starts = nextStarts;
            nextStarts = oldStarts;
            spaces = nextSpaces;
            starts[spaces] = nextCount;
        }

        private void splitSpace(int s, int sort, Sorts sorts, Prime prime) {
            int first = starts[s];
            int size = starts[s + 1] - first;
            if (size == 1) {
                keepLine(first);
                return;
            }
            reduce(lines, first, size, width, prime);
            fillAction(first, size, sort, sorts, prime);
            int end = nextCount + size;
            for (int w = 0; w < prime.p && nextCount < end; w++) {
                fillWork(size, w, prime);
                int rank = reduce(work, 0, size, size, prime);
                if (rank < size && nextSpaces < width) {
                    nextStarts[nextSpaces] = nextCount;
                    nextSpaces++;
                    addMixes(first, size, rank, prime);
                }
            }
        }

        /** A space of one line is as small as it can be. */
        private void keepLine(int r) {
            if (nextSpaces < width && nextCount < width) {
                nextStarts[nextSpaces] = nextCount;
                nextSpaces++;
                System.arraycopy(lines[r], 0, nextLines[nextCount], 0, width);
                nextCount++;
            }
        }

        /** Behind reduce each line alone is not 0 at its pivot: there the mix can be read. */
        private void fillAction(int first, int size, int sort, Sorts sorts, Prime prime) {
            for (int b = 0; b < size; b++) {
                for (int c = 0; c < size; c++) {
                    int sum = 0;
                    for (int k = 0; k < width; k++) {
                        sum += sorts.pairs[Sorts.pairPlace(sort, pivots[c], k)] * lines[first + b][k];
                    }
                    action[b][c] = prime.left(sum);
                }
            }
        }

        private void fillWork(int size, int w, Prime prime) {
            for (int b = 0; b < size; b++) {
                for (int c = 0; c < size; c++) {
                    work[c][b] = action[b][c];
                }
                work[b][b] = prime.left(action[b][b] - w);
            }
        }

        /** Puts one line into the next ones for each mix that the reduced work makes 0. */
        private void addMixes(int first, int size, int rank, Prime prime) {
            int pivot = 0;
            for (int free = 0; free < size; free++) {
                if (pivot < rank && pivots[pivot] == free) {
                    pivot++;
                } else if (nextCount < width) {
                    Arrays.fill(mix, 0);
                    mix[free] = 1;
                    for (int r = 0; r < rank; r++) {
                        mix[pivots[r]] = prime.left(-work[r][free]);
                    }
                    mixLines(first, size, nextLines[nextCount], prime);
                    nextCount++;
                }
            }
        }

        private void mixLines(int first, int size, int[] into, Prime prime) {
            for (int k = 0; k < width; k++) {
                int sum = 0;
                for (int b = 0; b < size; b++) {
                    sum += mix[b] * lines[first + b][k];
                }
                into[k] = prime.p > 0 ? sum % prime.p : 0;
            }
        }

        /** Makes each line 1 at its pivot and all others 0 there: how many pivots there are. */
        private int reduce(int[][] table, int first, int size, int columns, Prime prime) {
            int rank = 0;
            for (int c = 0; c < columns && rank < size; c++) {
                int found = lineWith(table, first + rank, first + size, c);
                if (found != NONE) {
                    int[] line = table[found];
                    table[found] = table[first + rank];
                    table[first + rank] = line;
                    scale(line, c, columns, prime.over[prime.left(line[c])], prime.p);
                    for (int r = first; r < first + size; r++) {
                        if (r != first + rank) {
                            clearColumn(table[r], line, c, columns, prime.p);
                        }
                    }
                    pivots[rank] = c;
                    rank++;
                }
            }
            return rank;
        }

        private static int lineWith(int[][] table, int from, int end, int column) {
            for (int r = from; r < end; r++) {
                if (table[r][column] != 0) {
                    return r;
                }
            }
            return NONE;
        }

        // Left of its pivot a line is 0 already, so that both begin there.

        private static void scale(int[] line, int pivot, int columns, int factor, int p) {
            for (int c = pivot; c < columns && factor != 1 && p > 0; c++) {
                line[c] = line[c] * factor % p;
            }
        }

        private static void clearColumn(int[] other, int[] line, int pivot, int columns, int p) {
            int factor = p - other[pivot];
            for (int c = pivot; c < columns && factor != p && p > 0; c++) {
                other[c] = (other[c] + line[c] * factor) % p;
            }
        }
    }

    /** The ROWS in order, with the SORTS that they are rows of. */
    private static final class Rows {
        final Sorts sorts = new Sorts();
        final Prime prime = new Prime();
        int count = 0;
        final int[] degrees = new int[MOST_SORTS];
        final int[][] spreads = new int[MOST_SORTS][MOST_SORTS];
        final int[][] values = new int[MOST_SORTS][MOST_SORTS];
        final int[] multiplied = new int[MOST_SORTS];
        private final Spaces spaces = new Spaces();

        void build() {
            count = sorts.count;
            spaces.takeApart(sorts, prime);
            for (int r = 0; r < count; r++) {
                spaces.copyLine(r, spreads[r], prime);
                degrees[r] = degreeOf(spreads[r]);
                for (int i = 0; i < count; i++) {
                    values[r][i] = prime.divided(degrees[r] * spreads[r][i], sorts.sizes[i]);
                }
            }
            putInOrder();
        }

        int countOfDegreeOne() {
            int found = 0;
            for (int r = 0; r < count; r++) {
                if (degrees[r] == 1) {
                    found++;
                }
            }
            return found;
        }

        int rootCount(int r, int i, int m) {
            int turn = sorts.turns[i];
            if (turn <= 0 || sorts.exponent <= 0) {
                return 0;
            }
            int step = sorts.exponent / turn;
            int sum = 0;
            for (int j = 0; j < turn; j++) {
                int e = Math.floorMod(-step * j * m, sorts.exponent);
                sum += values[r][sorts.powerSort(i, j)] * prime.rootPowers[e];
            }
            return prime.divided(sum, turn);
        }

        int mirrorSign(int r) {
            int sum = 0;
            for (int i = 0; i < count; i++) {
                sum += sorts.sizes[i] * values[r][sorts.powerSort(i, 2)];
            }
            int sign = prime.divided(sum, sorts.elements.order);
            return sign == prime.p - 1 ? -1 : sign;
        }

        int blindBits(int r) {
            int bits = 0;
            for (int i = 0; i < count; i++) {
                if (values[r][i] == degrees[r]) {
                    bits |= 1 << i;
                }
            }
            return bits;
        }

        int meet(int[] a, int[] b) {
            int sum = 0;
            for (int i = 0; i < count; i++) {
                sum += sorts.sizes[i] * a[i] * b[sorts.inverses[i]];
            }
            return prime.divided(sum, sorts.elements.order);
        }

        void multiplyRows(int r, int s) {
            for (int i = 0; i < count; i++) {
                multiplied[i] = prime.left(values[r][i] * values[s][i]);
            }
        }

        int rowLike(int[] row) {
            for (int r = 0; r < count; r++) {
                if (differAt(values[r], row) == count) {
                    return r;
                }
            }
            return NONE;
        }

        private int degreeOf(int[] spread) {
            int sum = 0;
            for (int i = 0; i < count; i++) {
                sum += prime.divided(spread[i] * spread[sorts.inverses[i]], sorts.sizes[i]);
            }
            int order = sorts.elements.order;
            for (int d = 1; d * d <= order; d++) {
                if (prime.left(d * d * sum) == prime.left(order)) {
                    return d;
                }
            }
            return 1;
        }

        private void putInOrder() {
            for (int end = 1; end < count; end++) {
                for (int r = end; r > 0 && comesBefore(r, r - 1); r--) {
                    exchange(r, r - 1);
                }
            }
        }

        private boolean comesBefore(int r, int s) {
            if (degrees[r] != degrees[s]) {
                return degrees[r] < degrees[s];
            }
            int i = differAt(values[r], values[s]);
            return i < count && values[r][i] < values[s][i];
        }

        /** The first SORT at which two rows differ; how many there are, if they do not. */
        private int differAt(int[] a, int[] b) {
            int i = 0;
            while (i < count && a[i] == b[i]) {
                i++;
            }
            return i;
        }

        private void exchange(int r, int s) {
            int degree = degrees[r];
            degrees[r] = degrees[s];
            degrees[s] = degree;
            int[] row = values[r];
            values[r] = values[s];
            values[s] = row;
            row = spreads[r];
            spreads[r] = spreads[s];
            spreads[s] = row;
        }
    }
}
