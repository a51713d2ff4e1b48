import java.util.List;

/** An object brought to where edges are looked at, with what is true there, told by hand. */
final class Place {
    final String name;
    final int points;
    final List<Integer> generators;
    final int order, sorts;
    final int[] turns, degrees;
    final Twins.Before before;

    private Place(String name, int points, List<Integer> generators, int order, int[] turns, int[] degrees, Twins.Before before) {
        this.name = name;
        this.points = points;
        this.generators = generators;
        this.order = order;
        this.sorts = turns.length;
        this.turns = turns;
        this.degrees = degrees;
        this.before = before;
    }

    RootedClasses made() {
        RootedClasses x = new RootedClasses();
        before.on(x);
        return x;
    }

    Oracle oracle() {
        return Oracle.of(points, generators);
    }

    static void write(RootedClasses x, String text) {
        for (int k = 0; k < text.length(); k++) {
            x.type(text.charAt(k));
        }
    }

    static Place[] all() {
        return new Place[] {
            new Place("a new object", 4, List.of(), 1, new int[] {1}, new int[] {1}, x -> { }),
            new Place("one point", 1, List.of(0), 1, new int[] {1}, new int[] {1}, x -> {
                x.points(1);
                x.moves(0);
                write(x, "m0");
            }),
            new Place("four in a ring", 4, List.of(1230), 4, new int[] {1, 4, 2, 4}, new int[] {1, 1, 1, 1}, x -> {
                x.moves(1230);
                write(x, "x0; n5");
            }),
            new Place("all of four", 4, List.of(1230, 1023), 24, new int[] {1, 2, 3, 2, 4}, new int[] {1, 1, 2, 3, 3}, x -> {
                x.back();
                x.moves(1230);
                x.moves(1023);
                write(x, "m0123;x1;");
            }),
            new Place("all of five, all full", 5, List.of(12340, 10234, 1234), 120, new int[] {1, 2, 3, 2, 4, 6, 5},
                new int[] {1, 1, 4, 4, 5, 5, 6}, Place::fill)
        };
    }

    /** Three GENERATORS, five STATES with others lost, eighty bytes, each kind of refusal. */
    private static void fill(RootedClasses x) {
        x.points(0);
        x.back();
        x.points(3);
        x.moves(120);
        x.points(5);
        x.moves(12340);
        x.moves(10234);
        x.moves(1234);
        x.moves(1234);
        write(x, "x2;x1;n4;m1230;m1032;n5;m43210;n3;m210;m012;m120;x1;n2;m10;n1;m0;m0;m0;x2;x0;m0;");
        x.type('0');
    }
}
