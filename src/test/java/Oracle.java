import java.util.ArrayList;
import java.util.Arrays;
import java.util.Collections;
import java.util.HashMap;
import java.util.List;
import java.util.Map;
import java.util.TreeSet;

/**
 * What the document says of N and GENERATORS, reckoned anew in another way than the class does:
 * MOVES are Strings, TIMES are counted pair by pair, and SPREADS come of idempotents.
 */
final class Oracle {
    final int points;
    final int generatorCount;
    final List<String> elements;
    final int[] sortOf;
    final int sorts;
    final int[] size, turn, least, inverseSort, squareSort, left;
    final int[][] powerSort;
    final int[][][] times;
    final int exponent, prime, root;
    final int[] degree;
    final int[][] spread, value;
    private final Map<String, Integer> place = new HashMap<>();
    private static final Map<String, Oracle> MADE = new HashMap<>();

    static Oracle of(int points, List<Integer> generators) {
        String key = points + " " + generators;
        Oracle oracle = MADE.get(key);
        if (oracle == null) {
            oracle = new Oracle(points, generators);
            MADE.put(key, oracle);
        }
        return oracle;
    }

    static String figures(int code, int points) {
        String text = String.valueOf(code);
        while (text.length() < points) {
            text = "0" + text;
        }
        return text;
    }

    static String after(String x, String y) {
        StringBuilder made = new StringBuilder();
        for (int p = 0; p < x.length(); p++) {
            made.append(y.charAt(x.charAt(p) - '0'));
        }
        return made.toString();
    }

    static TreeSet<String> closure(int points, List<Integer> generators) {
        TreeSet<String> all = new TreeSet<>();
        all.add("01234".substring(0, points));
        boolean grew = true;
        while (grew) {
            List<String> more = new ArrayList<>();
            for (String x : all) {
                for (int g : generators) {
                    more.add(after(x, figures(g, points)));
                }
            }
            grew = all.addAll(more);
        }
        return all;
    }

    private Oracle(int points, List<Integer> generators) {
        this.points = points;
        this.generatorCount = generators.size();
        elements = new ArrayList<>(closure(points, generators));
        for (int i = 0; i < elements.size(); i++) {
            place.put(elements.get(i), i);
        }
        int order = elements.size();
        sortOf = new int[order];
        Arrays.fill(sortOf, -1);
        List<Integer> leasts = new ArrayList<>();
        for (int x = 0; x < order; x++) {
            if (sortOf[x] >= 0) {
                continue;
            }
            for (int z = 0; z < order; z++) {
                for (int y = x; y < order; y++) {
                    if (product(z, x) == product(y, z)) {
                        sortOf[y] = leasts.size();
                    }
                }
            }
            leasts.add(x);
        }
        sorts = leasts.size();
        size = new int[sorts];
        turn = new int[sorts];
        least = new int[sorts];
        inverseSort = new int[sorts];
        squareSort = new int[sorts];
        left = new int[sorts];
        powerSort = new int[sorts][];
        int shared = 1;
        for (int i = 0; i < sorts; i++) {
            least[i] = leasts.get(i);
            for (int x = 0; x < order; x++) {
                size[i] += sortOf[x] == i ? 1 : 0;
            }
            List<Integer> powers = new ArrayList<>();
            int power = 0;
            do {
                powers.add(sortOf[power]);
                power = product(power, least[i]);
            } while (power != 0);
            turn[i] = powers.size();
            powerSort[i] = powers.stream().mapToInt(v -> v).toArray();
            inverseSort[i] = sortOf[inverse(least[i])];
            squareSort[i] = sortOf[product(least[i], least[i])];
            for (int p = 0; p < points; p++) {
                left[i] += elements.get(least[i]).charAt(p) == '0' + p ? 1 : 0;
            }
            int next = shared;
            while (next % turn[i] != 0) {
                next += shared;
            }
            shared = next;
        }
        exponent = shared;
        times = new int[sorts][sorts][sorts];
        for (int x = 0; x < order; x++) {
            for (int y = 0; y < order; y++) {
                int z = product(x, y);
                if (least[sortOf[z]] == z) {
                    times[sortOf[x]][sortOf[y]][sortOf[z]]++;
                }
            }
        }
        prime = leastPrime(order);
        root = power(leastMaker(), (prime - 1) / exponent);
        List<int[]> rows = new ArrayList<>();
        for (int[] w : findSpreads()) {
            rows.add(rowOf(w));
        }
        Collections.sort(rows, Oracle::compareRows);
        degree = new int[sorts];
        spread = new int[sorts][sorts];
        value = new int[sorts][sorts];
        for (int r = 0; r < sorts; r++) {
            degree[r] = rows.get(r)[0];
            for (int i = 0; i < sorts; i++) {
                value[r][i] = rows.get(r)[1 + i];
                spread[r][i] = rows.get(r)[1 + sorts + i];
            }
        }
    }

    int product(int x, int y) {
        return place.get(after(elements.get(x), elements.get(y)));
    }

    int inverse(int x) {
        for (int y = 0; y < elements.size(); y++) {
            if (product(x, y) == 0) {
                return y;
            }
        }
        throw new IllegalStateException();
    }

    private int leastPrime(int order) {
        for (int n = 8;; n++) {
            boolean isPrime = true;
            for (int d = 2; d < n; d++) {
                isPrime &= n % d != 0;
            }
            if (isPrime && n * n > 4 * order && (n - 1) % exponent == 0) {
                return n;
            }
        }
    }

    private int leastMaker() {
        for (int g = 1;; g++) {
            TreeSet<Integer> powers = new TreeSet<>();
            for (int e = 0; e < prime; e++) {
                powers.add(power(g, e));
            }
            if (powers.size() == prime - 1) {
                return g;
            }
        }
    }

    int power(int base, int e) {
        int power = 1;
        for (int k = 0; k < e; k++) {
            power = power * base % prime;
        }
        return power;
    }

    int divided(int a, int b) {
        return Math.floorMod(Math.floorMod(a, prime) * power(Math.floorMod(b, prime), prime - 2), prime);
    }

    /** 1 less the (P less 1)-th power of (SORT less w) is 1 where SORT is w, and 0 elsewhere. */
    private List<int[]> findSpreads() {
        List<int[]> idempotents = new ArrayList<>();
        int[] one = new int[sorts];
        one[0] = 1;
        idempotents.add(one);
        for (int i = 1; i < sorts; i++) {
            List<int[]> finer = new ArrayList<>();
            for (int w = 0; w < prime; w++) {
                int[] shifted = new int[sorts];
                shifted[i] = 1;
                shifted[0] = prime - w;
                int[] power = one;
                for (int bit = 1 << 6; bit > 0; bit >>= 1) {
                    power = timesOf(power, power);
                    if (((prime - 1) & bit) != 0) {
                        power = timesOf(power, shifted);
                    }
                }
                int[] there = new int[sorts];
                for (int k = 0; k < sorts; k++) {
                    there[k] = Math.floorMod(one[k] - power[k], prime);
                }
                for (int[] e : idempotents) {
                    int[] both = timesOf(e, there);
                    if (Arrays.stream(both).anyMatch(v -> v != 0)) {
                        finer.add(both);
                    }
                }
            }
            idempotents = finer;
        }
        if (idempotents.size() != sorts) {
            throw new IllegalStateException("as many SPREADS as SORTS");
        }
        List<int[]> spreads = new ArrayList<>();
        for (int[] e : idempotents) {
            int at = 0;
            while (e[at] == 0) {
                at++;
            }
            int[] w = new int[sorts];
            for (int i = 0; i < sorts; i++) {
                int[] only = new int[sorts];
                only[i] = 1;
                w[i] = divided(timesOf(only, e)[at], e[at]);
            }
            spreads.add(w);
        }
        return spreads;
    }

    private int[] timesOf(int[] a, int[] b) {
        int[] made = new int[sorts];
        for (int i = 0; i < sorts; i++) {
            for (int j = 0; j < sorts; j++) {
                for (int k = 0; k < sorts; k++) {
                    made[k] = (made[k] + a[i] * b[j] % prime * times[i][j][k]) % prime;
                }
            }
        }
        return made;
    }

    /** DEGREE, VALUES, then the SPREAD. */
    private int[] rowOf(int[] w) {
        int sum = 0;
        for (int i = 0; i < sorts; i++) {
            for (int j = 0; j < sorts; j++) {
                int made = 0;
                for (int k = 0; k < sorts; k++) {
                    made += times[i][j][k] * w[k];
                }
                if (w[0] != 1 || (w[i] * w[j] - made) % prime != 0) {
                    throw new IllegalStateException("no SPREAD");
                }
            }
            sum += divided(w[i] * w[inverseSort[i]], size[i]);
        }
        int[] row = new int[1 + 2 * sorts];
        int found = 0;
        for (int d = 1; d * d <= elements.size(); d++) {
            if ((d * d * sum - elements.size()) % prime == 0) {
                row[0] = d;
                found++;
            }
        }
        if (found != 1) {
            throw new IllegalStateException("just one DEGREE");
        }
        for (int i = 0; i < sorts; i++) {
            row[1 + i] = divided(row[0] * w[i], size[i]);
            row[1 + sorts + i] = w[i];
        }
        return row;
    }

    private static int compareRows(int[] a, int[] b) {
        for (int i = 0; i < a.length; i++) {
            if (a[i] != b[i]) {
                return Integer.compare(a[i], b[i]);
            }
        }
        return 0;
    }

    int meet(int[] a, int[] b) {
        int sum = 0;
        for (int i = 0; i < sorts; i++) {
            sum += size[i] * (a[i] * b[inverseSort[i]] % prime);
        }
        return divided(sum, elements.size());
    }

    int[] rowProduct(int r, int s) {
        int[] made = new int[sorts];
        for (int i = 0; i < sorts; i++) {
            made[i] = value[r][i] * value[s][i] % prime;
        }
        return made;
    }

    int mirror(int r) {
        int sum = 0;
        for (int i = 0; i < sorts; i++) {
            sum += size[i] * value[r][squareSort[i]];
        }
        int sign = divided(sum, elements.size());
        return sign == prime - 1 ? -1 : sign;
    }

    int blind(int r) {
        int bits = 0;
        for (int i = 0; i < sorts; i++) {
            bits += value[r][i] == degree[r] ? 1 << i : 0;
        }
        return bits;
    }

    int part(int r, int i, int m) {
        int sum = 0;
        for (int j = 0; j < turn[i]; j++) {
            int up = power(root, exponent / turn[i] * j * m);
            sum += divided(value[r][powerSort[i][j]], up);
        }
        return divided(sum, turn[i]);
    }

    int turned(int r, int s) {
        int[] made = rowProduct(r, s);
        for (int t = 0; t < sorts; t++) {
            if (Arrays.equals(value[t], made)) {
                return t;
            }
        }
        throw new IllegalStateException();
    }

    int whole(int what) {
        switch (what) {
            case 0: return elements.size();
            case 1: return sorts;
            case 2: return exponent;
            case 3: return prime;
            case 4: return root;
            case 5: return generatorCount;
            case 6: return (int) Arrays.stream(size).filter(n -> n == 1).count();
            default: return (int) Arrays.stream(degree).filter(d -> d == 1).count();
        }
    }

    int elementAnswer(int i, int what) {
        switch (what) {
            case 0: return Integer.parseInt(elements.get(i));
            case 1: return sortOf[i];
            case 2: return inverse(i);
            default: return turn[sortOf[i]];
        }
    }

    int sortAnswer(int i, int what) {
        return new int[][] {size, turn, least, inverseSort, squareSort, left}[what][i];
    }

    long digest(int[] told) {
        long h = 2447;
        for (int v : told) {
            h = 31 * h + v;
        }
        for (int what = 0; what < 8; what++) {
            h = 31 * h + whole(what);
        }
        for (int i = 0; i < sorts; i++) {
            for (int what = 0; what < 6; what++) {
                h = 31 * h + sortAnswer(i, what);
            }
        }
        for (int r = 0; r < sorts; r++) {
            h = 31 * h + degree[r];
            for (int v : value[r]) {
                h = 31 * h + v;
            }
            h = 31 * h + mirror(r);
        }
        return h;
    }
}
