/** Promises 19 to 21, and THE TEXT among the terms: its bytes, its blanks, each FAULT, each stop. */
public final class EdgeTextTest {
    private static final Due DUE = new Due();
    private static final Twins TWINS = new Twins(DUE);
    private static final int BAD = RootedClasses.BAD, FULL = RootedClasses.FULL;
    private static final int LEAST = Integer.MIN_VALUE, GREATEST = Integer.MAX_VALUE;

    public static void main(String[] args) {
        everyByte();
        typeRefused();
        eightyBytes();
        typeIsNoState();
        clearEdges();
        emptyAndBlank();
        everyByteAtEachPlace();
        endsTooEarly();
        oneFigure();
        figureOfN();
        figuresOfM();
        pointsByThen();
        blanksAnywhere();
        firstFaultOfSeveral();
        faultsDoNothing();
        faultBeforeStop();
        stopsOfX();
        stopsOfM();
        numberOfTheStop();
        stopsDoNothing();
        fullText();
        readsDone();
        readsTwice();
        DUE.end("EdgeTextTest");
    }

    private static String times(String part, int count) {
        return part.repeat(count);
    }

    private static RootedClasses typed(String text) {
        RootedClasses x = new RootedClasses();
        Place.write(x, text);
        return x;
    }

    private static void told(String name, RootedClasses x, int... want) {
        for (int what = 0; what < want.length; what++) {
            DUE.is(name + ": told(" + what + ")", x.told(what), want[what]);
        }
    }

    /** Reads on a new object, which nothing but the bytes may change. */
    private static void fails(String text, int answer) {
        RootedClasses x = typed(text);
        String name = "'" + text + "'";
        DUE.is(name, x.reads(), answer);
        told(name, x, 0, 0, 0, text.length(), 4, 0, 0);
        DUE.is(name + " again", x.reads(), answer);
        DUE.is(name + ": ORDER", x.of(0), 1);
        DUE.is(name + ": no STATE", x.back(), RootedClasses.NO);
    }

    private static void faults(String text, int place) {
        fails(text, -10 - place);
    }

    private static void stops(String text, int order) {
        fails(text, -1000 - order);
    }

    private static RootedClasses done(String text, int orders, int points, int generators) {
        RootedClasses x = typed(text);
        String name = "'" + text + "'";
        DUE.is(name, x.reads(), orders);
        told(name, x, 0, 0, 0, text.length(), points, generators, 1);
        return x;
    }

    // ---- type

    // "A byte (0 .. 127) comes behind THE TEXT: how many it has."
    private static void everyByte() {
        for (int c = 0; c < 128; c++) {
            RootedClasses x = new RootedClasses();
            DUE.is("type " + c, x.type(c), 1);
            DUE.is("type " + c + " again", x.type(c), 2);
            told("type " + c, x, 0, 0, 0, 2, 4, 0, 0);
        }
    }

    // "BAD"
    private static void typeRefused() {
        for (Place at : Place.all()) {
            for (int c : new int[] {-1, 128, 129, 255, 256, 256 + ';', 1 << 16 | ';', 1 << 31 | ';', -128, LEAST, GREATEST}) {
                TWINS.refused(at.name + ": type " + c, at.before, x -> x.type(c), BAD);
            }
        }
        RootedClasses x = typed("n5");
        x.type(-1);
        x.type(128);
        x.type(';');
        DUE.is("refused bytes are not in THE TEXT", x.reads(), 1);
        told("refused bytes", x, 2, 0, 0, 3, 5, 0, 1);
    }

    // "THE TEXT (80 bytes at most)", "FULL: 80", BAD before FULL
    private static void eightyBytes() {
        RootedClasses x = new RootedClasses();
        for (int k = 1; k <= 80; k++) {
            DUE.is("byte " + k, x.type(k), k);
        }
        told("80 bytes", x, 0, 0, 0, 80, 4, 0, 0);
        DUE.is("byte 81", x.type(0), FULL);
        DUE.is("byte 81, the last that there is", x.type(127), FULL);
        DUE.is("byte 81, none", x.type(128), BAD);
        DUE.is("byte 81, none", x.type(-1), BAD);
        told("80 bytes", x, 2, 0, 2, 80, 4, 0, 0);
        Twins.Before full = y -> Place.write(y, "n5;" + times(" ", 77));
        for (int c : new int[] {0, ' ', ';', '5', 127}) {
            TWINS.refused("type " + c + " behind 80", full, y -> y.type(c), FULL);
        }
        for (int c : new int[] {-1, 128, LEAST, GREATEST}) {
            TWINS.refused("type " + c + " behind 80", full, y -> y.type(c), BAD);
        }
        DUE.is("all", x.clear(), 80);
        DUE.is("there is room again", x.type('n'), 1);
    }

    private static void typeIsNoState() {
        RootedClasses x = typed("n5;");
        x.clear();
        told("neither type nor clear leaves a STATE", x, 0, 0, 0, 0, 4, 0, 0);
        x.moves(1230);
        x.type('n');
        DUE.is("back takes no byte away", x.back(), 0);
        told("back", x, 0, 0, 0, 1, 4, 0, 0);
    }

    // ---- clear

    // "THE TEXT is empty: how many it had."
    private static void clearEdges() {
        for (Place at : Place.all()) {
            RootedClasses x = at.made();
            int had = x.told(3);
            int[] all = {x.told(0), x.told(1), x.told(2), 0, x.told(4), x.told(5), x.told(6)};
            DUE.is(at.name + ": clear", x.clear(), had);
            told(at.name + ": clear", x, all);
            DUE.is(at.name + ": clear again", x.clear(), 0);
            told(at.name + ": clear again", x, all);
            DUE.is(at.name + ": nothing to read", x.reads(), -10);
            DUE.is(at.name + ": the first byte", x.type('n'), 1);
            DUE.is(at.name + ": no old byte is behind it", x.reads(), -11);
        }
        for (int length = 0; length <= 80; length++) {
            DUE.is("clear of " + length, typed(times("7", length)).clear(), length);
        }
    }

    // ---- FAULT

    // "the TEXT's length, if it ends too early (an empty one, one of blanks alone, too)"
    private static void emptyAndBlank() {
        for (int length = 0; length <= 80; length++) {
            faults(times(" ", length), length);
        }
        RootedClasses x = typed("n5;");
        x.clear();
        DUE.is("emptied", x.reads(), -10);
    }

    // "FAULT: the place of the first byte that can not stand there"; what can is told here by hand
    private static void everyByteAtEachPlace() {
        String[][] places = {
            {"", "nmx"}, {" ", "nmx"}, {"n5;", "nmx"}, {"n5; ", "nmx"}, {"m0123;", "nmx"}, {"m0123;x0;", "nmx"},
            {"n", "12345"}, {"n ", "12345"}, {"n3;n", "12345"},
            {"n1", ";"}, {"n5", ";"}, {"n5 ", ";"},
            {"m", "0123"}, {"m ", "0123"}, {"m0", "123"}, {"m1", "023"}, {"m2", "013"}, {"m3", "012"},
            {"m01", "23"}, {"m32", "01"}, {"m3 2", "01"}, {"m012", "3"}, {"m321", "0"}, {"m32 1 ", "0"},
            {"m0123", ";"}, {"m3210", ";"}, {"m3210 ", ";"},
            {"n1;m", "0"}, {"n1;m0", ";"}, {"n2;m", "01"}, {"n2;m1", "0"}, {"n2;m10", ";"}, {"n3;m", "012"}, {"n3;m20", "1"},
            {"n3;m201", ";"}, {"n4;m", "0123"}, {"n5;m", "01234"}, {"n5;m4", "0123"}, {"n5;m0123", "4"}, {"n5;m01234", ";"},
            {"x", "0123456789"}, {"x ", "0123456789"}, {"x0", ";"}, {"x9", ";"}, {"x9 ", ";"},
        };
        for (String[] place : places) {
            for (int c = 0; c < 128; c++) {
                String text = place[0] + (char) c;
                if (c == ' ' || place[1].indexOf(c) >= 0) {
                    stands(place[0], c);
                } else {
                    faults(text, place[0].length());
                    faults(text + ";", place[0].length());
                }
            }
        }
    }

    /** A byte that stands is followed by one that never does. */
    private static void stands(String before, int c) {
        String text = before + (char) c;
        faults(text + "?", text.length());
    }

    private static void endsTooEarly() {
        String[] whole = {"n5;", "m3210;", "x0;", " n 5 ; ", "n3;m120;m102;x0;", "n5;m43210;", "m 0 1 2 3 ;"};
        for (String text : whole) {
            for (int length = 0; length < text.length(); length++) {
                String begun = text.substring(0, length);
                boolean ended = begun.trim().endsWith(";");
                if (!ended) {
                    faults(begun, length);
                    faults(begun + " ", length + 1);
                    faults(begun + times(" ", 80 - length), 80);
                }
            }
        }
    }

    // "Numbers have one figure but those of m": the second one can not stand there
    private static void oneFigure() {
        for (int first = 0; first <= 9; first++) {
            for (int second = 0; second <= 9; second++) {
                faults("x" + first + second + ";", 2);
                faults("x" + first + " " + second + ";", 3);
                faults("m3210;x" + first + second + ";", 8);
                faults("n" + first + second + ";", first >= 1 && first <= 5 ? 2 : 1);
            }
        }
    }

    // "(n not 1 to 5: its figure"
    private static void figureOfN() {
        for (int n = 0; n <= 9; n++) {
            if (n >= 1 && n <= 5) {
                done("n" + n + ";", 1, n, 0);
                done(" n " + n + " ; ", 1, n, 0);
            } else {
                faults("n" + n + ";", 1);
                faults(" n  " + n + ";", 4);
                faults("n5;n" + n + ";", 4);
                faults("n" + n, 1);
            }
            faults("n1" + n + ";", 2);
            faults("n5 " + n + ";", 3);
        }
        faults("n-1;", 1);
        faults("n;", 1);
        faults("n ;", 2);
    }

    // "of m a figure that is no POINT, or was told)"
    private static void figuresOfM() {
        for (int n = 1; n <= 5; n++) {
            String head = "n" + n + ";m";
            String points = "01234".substring(0, n);
            int at = head.length();
            done(head + points + ";", 2, n, 1);
            done(head + new StringBuilder(points).reverse() + ";", 2, n, 1);
            for (int k = 0; k < n; k++) {
                for (int figure = 0; figure <= 9; figure++) {
                    if (figure >= n || figure < k) {
                        faults(head + points.substring(0, k) + figure + points.substring(k) + ";", at + k);
                        faults(head + points.substring(0, k) + " " + figure, at + k + 1);
                    }
                }
                faults(head + points.substring(0, k) + ";", at + k);
            }
            for (int figure = 0; figure <= 9; figure++) {
                faults(head + points + figure + ";", at + n);
            }
        }
    }

    // "m and N figures (as moves, N as it is by then)"
    private static void pointsByThen() {
        done("n5;m01234;n4;m0123;n3;m012;n2;m01;n1;m0;", 10, 1, 1);
        done("m0123;n5;m43210;", 3, 5, 1);
        faults("n5;m0123;", 8);
        faults("n3;m0123;", 7);
        faults("n2;n3;m01;", 9);
        faults("m0123;n1;m01;", 11);
        for (int n = 1; n <= 5; n++) {
            RootedClasses x = new RootedClasses();
            x.points(n);
            Place.write(x, "m" + "01234".substring(0, n) + ";");
            DUE.is("N as it is: " + n, x.reads(), 1);
            x.points(n % 5 + 1);
            DUE.is("N is another now", x.reads(), n == 5 ? -12 : -10 - n - 1);
            told("N is another now", x, 0, 0, 0, n + 2, n % 5 + 1, 0, 3);
        }
        RootedClasses x = typed("n2;");
        x.reads();
        x.type('m');
        x.clear();
        Place.write(x, "m10;");
        DUE.is("N as a text left it", x.reads(), 1);
        x.back();
        x.back();
        DUE.is("N as it was before", x.reads(), -13);
    }

    // "blanks (32) may stand anywhere (between figures of m, too)"
    private static void blanksAnywhere() {
        String text = "n5;m12340;x0;";
        for (int k = 0; k <= text.length(); k++) {
            for (int blanks : new int[] {1, 2, 80 - text.length()}) {
                done(text.substring(0, k) + times(" ", blanks) + text.substring(k), 3, 5, 0);
            }
            for (char white : new char[] {0, 9, 10, 13, 31, 33, 127}) {
                faults(text.substring(0, k) + white + text.substring(k), k);
            }
        }
        done("  n  5  ;  m  1  2  3  4  0  ;  x  0  ;  ", 3, 5, 0);
    }

    private static void firstFaultOfSeveral() {
        faults("q", 0);
        faults(";;", 0);
        faults("n6;n0;", 1);
        faults("n5;n6;n0;", 4);
        faults("n55;m9;", 2);
        faults("m00;m11;", 2);
        faults("m0123;N;n9", 6);
        faults("n5;m0123;q", 8);
        faults("N5;", 0);
        faults("M0123;", 0);
        faults("X0;", 0);
    }

    // "If there is one, nothing is done." "by a FAULT of it nothing counts"
    private static void faultsDoNothing() {
        for (Place at : Place.all()) {
            for (String text : new String[] {"", " ", "n5;q", "n1", "x0;x0;x0", "n2;m10;m11;", "n6;", "x"}) {
                Twins.Before before = x -> {
                    at.before.on(x);
                    x.clear();
                    Place.write(x, text);
                };
                int place = text.equals("n5;q") ? 3 : text.equals("n2;m10;m11;") ? 9 : text.equals("n6;") ? 1 : text.length();
                TWINS.harmless(at.name + ": '" + text + "'", before, RootedClasses::reads, -10 - place);
            }
        }
    }

    // A FAULT is of THE TEXT, wherever it stands; only a text without one has ORDERS that can be refused
    private static void faultBeforeStop() {
        faults("x0;q", 3);
        faults("x9;x9;n6;", 7);
        faults("x0;m0", 5);
        faults("m0123;m0123;m0123;m0123;m", 25);
    }

    // ---- stops

    // "x i (as drops)", "An ORDER that its call would refuse stops all: nothing is done."
    private static void stopsOfX() {
        for (int count = 0; count <= 3; count++) {
            for (int i = 0; i <= 9; i++) {
                String text = times("m0123;", count) + "x" + i + ";";
                if (i < count) {
                    done(text, count + 1, 4, count - 1);
                } else {
                    stops(text, count);
                    stops(text + "m0123;", count);
                }
                RootedClasses x = new RootedClasses();
                for (int g = 0; g < count; g++) {
                    x.moves(3210);
                }
                Place.write(x, "x" + i + ";");
                DUE.is("x" + i + " of " + count, x.reads(), i < count ? 1 : -1000);
                told("x" + i + " of " + count, x, 0, 0, 0, 3, 4, i < count ? count - 1 : count, i < count ? count + 1 : count);
            }
        }
    }

    // "m .. (as moves": FULL stops all
    private static void stopsOfM() {
        done("m0123;m0123;m0123;", 3, 4, 3);
        stops("m0123;m0123;m0123;m0123;", 3);
        stops("m0123;m0123;m0123;m3210;x0;", 3);
        done("m0123;m0123;m0123;x1;m3210;", 5, 4, 3);
        done("m0123;m0123;m0123;n4;m3210;m3210;m3210;", 7, 4, 3);
        stops("n1;m0;m0;m0;m0;", 4);
        for (int count = 0; count <= 3; count++) {
            RootedClasses x = new RootedClasses();
            for (int g = 0; g < count; g++) {
                x.moves(123);
            }
            Place.write(x, times("m3210;", 4 - count));
            DUE.is("one too many behind " + count, x.reads(), -1000 - (3 - count));
            told("one too many behind " + count, x, 0, 0, 0, 6 * (4 - count), 4, count, count);
            x.clear();
            Place.write(x, times("m3210;", Math.max(1, 3 - count)));
            DUE.is("just enough behind " + count, x.reads(), count == 3 ? -1000 : 3 - count);
        }
    }

    // "-1000 less the number (0 on) of the ORDER that stops all"
    private static void numberOfTheStop() {
        for (int order = 0; order < 26; order++) {
            stops(times("n1;", order) + "x0;", order);
            stops(times("n3;", order) + "x0;" + times("x0;", 25 - order), order);
        }
        stops("m0123;x0;x0;x0;", 2);
        stops("m0123;n4;x0;", 2);
    }

    // "By what THE TEXT tells .. nothing counts"
    private static void stopsDoNothing() {
        for (Place at : Place.all()) {
            for (String text : new String[] {"n1;m0;x1;", "n2;m10;m01;m10;m01;", "x9;", "n5;x0;", "n4;m1230;x0;x0;"}) {
                Twins.Before before = x -> {
                    at.before.on(x);
                    x.clear();
                    Place.write(x, text);
                };
                int order = text.startsWith("n1") ? 2 : text.startsWith("n2") ? 4 : text.startsWith("x9") ? 0 : text.startsWith("n5") ? 1 : 3;
                TWINS.harmless(at.name + ": '" + text + "'", before, RootedClasses::reads, -1000 - order);
            }
        }
    }

    // ---- the last byte of 80

    private static void fullText() {
        done(times("n5;", 26) + "  ", 26, 5, 0);
        done("  " + times("n5;", 26), 26, 5, 0);
        done(times(" ", 77) + "n5;", 1, 5, 0);
        done("n5;" + times(" ", 77), 1, 5, 0);
        done("n" + times(" ", 78) + "5", -90, 4, 0, 0);
        done(times(" ", 79) + "n", -90, 4, 0, 0);
        done(times(" ", 79) + ";", -89, 4, 0, 0);
        done("n5;" + times(" ", 76) + "q", -89, 4, 0, 0);
        done(times("n5;", 26) + "n5", -90, 4, 0, 0);
        done(times("n5;", 26) + " x", -90, 4, 0, 0);
        done(times(" ", 77) + "x0;", -1000, 4, 0, 0);
        // a byte too many is not in THE TEXT
        RootedClasses x = typed(times("n5;", 26) + "n5;");
        DUE.is("the 81st byte", x.reads(), -90);
        told("the 81st byte", x, 0, 0, 1, 80, 4, 0, 0);
    }

    private static void done(String text, int answer, int points, int generators, int states) {
        RootedClasses x = typed(text);
        DUE.is("'" + text + "'", x.reads(), answer);
        told("'" + text + "'", x, 0, 0, 0, text.length(), points, generators, states);
    }

    // ---- what is done

    // "ORDERS are done (THE TEXT stays): how many. S (one STATE for all)."
    private static void readsDone() {
        RootedClasses x = done("n3;m120;m102;", 3, 3, 2);
        DUE.is("ORDER", x.of(0), 6);
        DUE.is("one STATE back", x.back(), 0);
        told("one STATE for all", x, 0, 0, 0, 13, 4, 0, 0);
        DUE.is("no more", x.back(), RootedClasses.NO);
        x = done("m1230;m0123;x1;x0;", 4, 4, 0);
        DUE.is("one STATE, though nothing changed", x.back(), 0);
        x = done("n4;", 1, 4, 0);
        DUE.is("one STATE, though nothing changed", x.back(), 0);
        x = done("m1230;m1032;m2301;x0;", 4, 4, 2);
        DUE.is("those behind are nearer", x.of(0), 4);
        DUE.is("GENERATOR 0 is now 1032", x.drops(1), 1);
        DUE.is("GENERATOR 0 is now 1032", x.element(1, 0), 1032);
    }

    private static void readsTwice() {
        RootedClasses x = typed("m1230;");
        for (int k = 1; k <= 3; k++) {
            DUE.is("read again", x.reads(), 1);
            told("read again", x, 0, 0, 0, 6, 4, k, k);
        }
        DUE.is("a fourth time", x.reads(), -1000);
        told("a fourth time", x, 0, 0, 0, 6, 4, 3, 3);
        DUE.is("back", x.back(), 2);
        DUE.is("read once more", x.reads(), 1);
        RootedClasses y = typed("n5;");
        for (int k = 1; k <= 7; k++) {
            DUE.is("read " + k, y.reads(), 1);
            DUE.is("STATES " + k, y.told(6), Math.min(5, k));
        }
    }
}
