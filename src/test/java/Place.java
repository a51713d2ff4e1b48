import java.util.List;

/** An object brought to where edges are looked at, with what is true there, told by hand. */
final class Place {
    final String name;
    final int points;
    final List<Integer> generators;
    final int order, sorts;
    final int[] turns, degrees, told;
    final Twins.Before before;

    private Place(String name, List<Integer> generators, int order, int[] turns, int[] degrees, int[] told, Twins.Before before) {
        this.name = name;
        this.points = told[4];
        this.generators = generators;
        this.order = order;
        this.sorts = turns.length;
        this.turns = turns;
        this.degrees = degrees;
        this.told = told;
        this.before = before;
    }

    RootedClasses made() {
        RootedClasses x = new RootedClasses();
        before.on(x);
        return x;
    }

    Oracle oracle() {
        return Oracle.of(points, generators);
    }

    static void write(RootedClasses x, String text) {
        for (int k = 0; k < text.length(); k++) {
            x.type(text.charAt(k));
        }
    }

    static Place[] all() {
        return new Place[] {
            new Place("a new object", List.of(), 1, new int[] {1}, new int[] {1}, new int[] {0, 0, 0, 0, 4, 0, 0}, x -> { }),
            new Place("one point", List.of(0), 1, new int[] {1}, new int[] {1}, new int[] {0, 0, 0, 2, 1, 1, 2}, x -> {
                x.points(1);
                x.moves(0);
                write(x, "m0");
            }),
            new Place("four in a ring", List.of(1230), 4, new int[] {1, 4, 2, 4}, new int[] {1, 1, 1, 1},
                new int[] {0, 0, 0, 6, 4, 1, 1}, x -> {
                    x.moves(1230);
                    write(x, "x0; n5");
                }),
            new Place("all of four", List.of(1230, 1023), 24, new int[] {1, 2, 3, 2, 4}, new int[] {1, 1, 2, 3, 3},
                new int[] {0, 1, 0, 9, 4, 2, 2}, x -> {
                    x.back();
                    x.moves(1230);
                    x.moves(1023);
                    write(x, "m0123;x1;");
                }),
            // the sorts are those of 01234, 02413, 03142, 04321, 12340
            new Place("twenty, reckoned before", List.of(12340, 2413), 20, new int[] {1, 4, 4, 2, 5}, new int[] {1, 1, 1, 1, 4},
                new int[] {1, 1, 0, 6, 5, 2, 3}, Place::reckon),
            full()
        };
    }

    static Place full() {
        return new Place("all of five, all full", List.of(12340, 10234, 1234), 120, new int[] {1, 2, 3, 2, 4, 6, 5},
            new int[] {1, 1, 4, 4, 5, 5, 6}, new int[] {1, 1, 2, 80, 5, 3, 5}, Place::fill);
    }

    /** All is known when the call comes, behind other GENERATORS of more ELEMENTS and SORTS. */
    private static void reckon(RootedClasses x) {
        x.points(5);
        x.moves(12340);
        x.moves(10234);
        x.turned(0, 2);
        x.back();
        x.moves(2413);
        x.degree(5);
        x.digest();
        write(x, "n3;m12");
    }

    /** Three GENERATORS, five STATES with others lost, eighty bytes, each kind of refusal. */
    private static void fill(RootedClasses x) {
        x.points(0);
        x.back();
        x.points(3);
        x.moves(120);
        x.points(5);
        x.moves(12340);
        x.moves(10234);
        x.moves(1234);
        x.moves(1234);
        write(x, "x2;x1;n4;m1230;m1032;n5;m43210;n3;m210;m012;m120;x1;n2;m10;n1;m0;m0;m0;x2;x0;m0;");
        x.type('0');
    }
}
