/** The boundary cases of promises 18 to 23 and of Terms 4, each in a test of its own. */
public final class BoundsWaysOutTest {
    private static final int UNKNOWN = -1, OUTSIDE = -2, STATE = -3, NONE = -9;
    private static final long LOST = MirrorHouse.LOST;
    private static final int LEAST = Integer.MIN_VALUE, MOST = Integer.MAX_VALUE;
    private static final Cases t = new Cases();

    public static void main(String[] args) {
        shut();
        far();
        opened();
        refusalsOfOpened();
        keeps();
        waysOfKeeps();
        refusalsOfKeeps();
        changed();
        rows();
        refusalsOfChanged();
        change();
        t.end(18, 23);
    }

    private static Counted of(String text, String... others) {
        Counted x = new Counted();
        t.due("house " + text, Due.build(x, text), 0);
        for (int k = 0; k < others.length; k++) t.due("house " + others[k], Due.build(x, others[k]), k + 1);
        return x;
    }

    /** The longest way that there is in any house: from room 0 over 22 sides, out by side 41; rooms 2, 23 beside it. */
    private static String longest() {
        return Due.with(Due.all(4, 3, 'm'), 'o', 0, 14, 12, 26, 24, 28, 27, 31, 32, 18, 19, 15, 17, 7, 6, 10, 9, 23, 21, 35, 34, 41, 3, 33);
    }

    // ---- promise 18

    private static void shut() {
        t.test(18, "NONE: it is FAIR", () -> {
            t.due("all open, 1 by 1", of(Due.all(1, 1, 'o')).shut(0), NONE);
            t.due("all open, 4 by 3", of(Due.all(4, 3, 'o')).shut(0), NONE);
            t.due("by one way alone", of(longest()).shut(0), NONE);
        });
        t.test(18, "SHUT: the first ROOM from which one cannot: the first, the last, of all of them", () -> {
            t.due("all shut", of(Due.all(4, 3, 'm')).shut(0), 0);
            for (int room = 0; room < 24; room++) {
                Counted x = of(Due.all(4, 3, 'o'));
                for (int way = 0; way < 3; way++) x.pane(0, x.side(0, room, way), way % 2);
                t.due("room " + room + " alone", x.shut(0), room);
                for (int way = 0; way < 3; way++) x.pane(0, x.side(0, 23, way), 0);
                t.due("room " + room + " ahead of 23", x.shut(0), room);
            }
        });
        t.test(18, "OUT by OPEN SIDES: not by GLASS, SMEARED or not, not by MIRRORS", () -> {
            for (char kind : new char[] {'m', 'g'}) {
                t.due("border", of(Due.with(Due.all(1, 1, 'o'), kind, 1, 2, 3, 4)).shut(0), 0);
                t.due("between", of("w1h1;" + kind + "oomm").shut(0), 1);
                t.due("between", of("w1h1;" + kind + "mmoo").shut(0), 0);
            }
            Counted x = of("w1h1;oggmm");
            x.walker(1, 0, 0, 0);
            x.ticks(0, 1);
            t.due("smeared", x.ofSide(0, 1, 4), 1);
            t.due("shut", x.shut(0), 0);
        });
        t.test(18, "SHUT of the HOUSE as it is now", () -> {
            Counted x = of(Due.all(1, 1, 'm'));
            int[] sides = {1, 3, 4, 0};
            int[] wants = {1, NONE, NONE, NONE};
            for (int k = 0; k < 4; k++) {
                x.pane(0, sides[k], 2);
                t.due("side " + sides[k] + " open", x.shut(0), wants[k]);
            }
            x.pane(0, 1, 1);
            t.due("by side 0", x.shut(0), NONE);
            x.pane(0, 0, 0);
            t.due("no more", x.shut(0), 0);
        });
        t.test(18, "UNKNOWN", () -> {
            for (int h : new int[] {-1, 2, 3, LEAST, MOST}) t.refused("shut of " + h, Recipes.SOME, x -> x.shut(h), UNKNOWN, Cases.STAYS);
            t.refused("shut of 0", Recipes.NEW, x -> x.shut(0), UNKNOWN, Cases.STAYS);
            t.refused("shut of 3", Recipes.FULL, x -> x.shut(3), UNKNOWN, Cases.STAYS);
            t.due("the last one", Recipes.FULL.make().shut(2), NONE);
        });
    }

    // ---- promise 19

    private static void far() {
        t.test(19, "FAR of a ROOM: the fewest OPEN SIDES to be OUT: 1, 2, 22 (there is no longer way)", () -> {
            Counted x = of(Due.all(1, 1, 'm'));
            x.pane(0, 1, 2);
            x.pane(0, 0, 2);
            t.due("of room 0", x.far(0, 0), 1);
            t.due("of room 1", x.far(0, 1), 2);
            Counted y = of(longest());
            int[] way = {0, 1, 8, 9, 16, 17, 18, 19, 20, 13, 12, 11, 10, 3, 4, 5, 6, 7, 14, 15, 22, 21};
            for (int k = 0; k < 22; k++) t.due("of room " + way[k], y.far(0, way[k]), 22 - k);
            t.due("of room 2, by 3", y.far(0, 2), 10);
            t.due("of room 23, by 22", y.far(0, 23), 3);
        });
        t.test(19, "NONE: one cannot be OUT", () -> {
            Counted x = of(Due.all(4, 3, 'g'));
            for (int room = 0; room < 24; room++) t.due("of room " + room, x.far(0, room), NONE);
            Counted y = of("w1h1;mommm");
            t.due("of room 0", y.far(0, 0), 1);
            t.due("of room 1", y.far(0, 1), NONE);
        });
        t.test(19, "the fewest OPEN SIDES: of two ways", () -> {
            Counted x = of(longest());
            x.pane(0, 2, 2);
            t.due("of room 0", x.far(0, 0), 1);
            t.due("of room 1", x.far(0, 1), 2);
            t.due("of room 18, in the midst", x.far(0, 18), 7);
            t.due("of room 20", x.far(0, 20), 9);
            t.due("of room 13", x.far(0, 13), 10);
            t.due("of room 11, as far by both", x.far(0, 11), 11);
            t.due("of room 10", x.far(0, 10), 10);
        });
        t.test(19, "UNKNOWN: HOUSE, ROOM", () -> {
            for (int h : new int[] {-1, 2, 3, LEAST, MOST}) far("of house " + h, h, 0);
            for (int room : new int[] {-1, 4, 24, LEAST, MOST}) far("of room " + room, 0, room);
            t.due("the last room", Recipes.SOME.make().far(0, 3), 1);
            t.due("room 23", of(Due.all(4, 3, 'o')).far(0, 23), 1);
            t.due("room 24", of(Due.all(4, 3, 'o')).far(0, 24), UNKNOWN);
        });
    }

    private static void far(String call, int h, int room) {
        t.refused("far " + call, Recipes.SOME, x -> x.far(h, room), UNKNOWN, Cases.STAYS);
    }

    // ---- promise 20

    private static void opened(Counted x, int d, int many, int first, int second) {
        t.due("how many for " + d, x.opened(0, d, -1), many);
        t.due("the first for " + d, x.opened(0, d, 0), first);
        t.due("the second for " + d, x.opened(0, d, 1), second);
    }

    private static void opened() {
        t.test(20, "OPENED: 0: NONE is the first", () -> {
            opened(of(Due.all(1, 1, 'o')), 1, 0, NONE, NONE);
            opened(of(Due.all(4, 3, 'o')), 3, 0, NONE, NONE);
            opened(of(longest()), 22, 0, NONE, NONE);
            opened(of(longest()), 30, 0, NONE, NONE);
        });
        t.test(20, "OPENED: 1: the first side as a row, NONE the second", () -> {
            opened(of("w1h1;ommmm"), 2, 1, 1, NONE);
            opened(of("w1h1;mommm"), 2, 1, 0, NONE);
            opened(of("w1h1;mommm"), 1, 1, 3, NONE);
            opened(of("w1h1;mmmmo"), 1, 1, 1, NONE);
            opened(of(longest()), 21, 1, 1, NONE);
            // rooms 2, 3 are shut in: out by side 4 over rooms 1, 0, or by side 5
            Counted x = of("w2h1;omoommmmm");
            opened(x, 5, 1, 4, NONE);
            opened(x, 4, 1, 4, NONE);
            opened(x, 3, 1, 5, NONE);
            opened(x, 2, 1, 5, NONE);
            opened(x, 1, NONE, NONE, NONE);
        });
        t.test(20, "OPENED: 1: the last SIDES of a HOUSE", () -> {
            opened(of("w1h1;moomm"), 1, 1, 3, NONE);
            opened(of(Due.with(Due.all(2, 1, 'o'), 'm', 7)), 1, 1, 7, NONE);
            // room 7 is shut in by sides 9, 13, 15
            Counted x = of(Due.with(Due.all(2, 2, 'o'), 'm', 9, 13, 15));
            opened(x, 4, 1, 9, NONE);
            opened(x, 3, 1, 9, NONE);
            opened(x, 2, 1, 13, NONE);
        });
        t.test(20, "OPENED: 2: of several sets the first as a row", () -> {
            opened(of(Due.all(1, 1, 'm')), 2, 2, 0, 1);
            opened(of(Due.all(1, 1, 'm')), 1, 2, 1, 3);
            opened(of(Due.all(1, 1, 'g')), 30, 2, 0, 1);
            opened(of("w2h1;ommmmmmmm"), 2, NONE, NONE, NONE);
            opened(of("w2h1;ommommmmm"), 4, 2, 1, 4);
            opened(of("w2h1;ommommmmm"), 3, 2, 1, 5);
            opened(of("w2h1;ommommmmm"), 2, 2, 1, 5);
            opened(of(Due.with(Due.all(4, 1, 'o'), 'm', 14, 15)), 1, 2, 14, 15);
            opened(of(Due.with(Due.all(4, 1, 'o'), 'm', 15, 13)), 1, 2, 13, 15);
        });
        t.test(20, "OPENED: NONE: more than two", () -> {
            opened(of(Due.all(2, 1, 'm')), 30, NONE, NONE, NONE);
            opened(of(Due.all(2, 1, 'm')), 1, NONE, NONE, NONE);
            opened(of(Due.all(4, 3, 'm')), 30, NONE, NONE, NONE);
            opened(of(Due.all(4, 3, 'o')), 1, NONE, NONE, NONE);
            opened(of(Due.all(4, 3, 'o')), 2, NONE, NONE, NONE);
        });
        t.test(20, "FAR is no more than d (1 .. 30) of all ROOMS: each d of a way of 8 ROOMS", () -> {
            Counted x = of("w4h1;omm" + "oom" + "oom" + "oom" + "o" + "mmmm");
            int[] many = {NONE, 2, 1, 1, 1, 1, 1, 0, 0};
            int[] first = {NONE, 8, 5, 1, 1, 1, 1, NONE, NONE};
            for (int d = 1; d <= 9; d++) opened(x, d, many[d - 1], first[d - 1], d == 2 ? 13 : NONE);
        });
        t.test(20, "SIDES that need be OPEN, too: they stay as they are", () -> {
            Counted x = of("w1h1;mgggm");
            opened(x, 2, 2, 0, 1);
            t.due("open ones", x.ofHouse(0, 6), 0);
            t.due("glass", x.ofHouse(0, 5), 3);
            t.due("shut", x.shut(0), 0);
            opened(x, 2, 2, 0, 1);
        });
        t.test(20, "d (1 .. 30): d 1, d 30", () -> {
            opened(of(Due.all(1, 1, 'o')), 1, 0, NONE, NONE);
            opened(of(Due.all(1, 1, 'o')), 30, 0, NONE, NONE);
        });
    }

    private static void opened(String call, int h, int d, int k, int want) {
        t.refused("opened " + call, Recipes.SOME, x -> x.opened(h, d, k), want, Cases.STAYS);
    }

    private static void refusalsOfOpened() {
        t.test(20, "UNKNOWN: HOUSE", () -> {
            for (int h : new int[] {-1, 2, 3, LEAST, MOST}) opened("of house " + h, h, 5, 0, UNKNOWN);
        });
        t.test(20, "UNKNOWN: k is not -1 .. 1", () -> {
            for (int k : new int[] {-2, 2, LEAST, MOST}) opened("k " + k, 0, 5, k, UNKNOWN);
        });
        t.test(20, "OUTSIDE: d (1 .. 30)", () -> {
            for (int d : new int[] {0, -1, 31, LEAST, MOST}) {
                for (int k = -1; k <= 1; k++) opened("d " + d, 0, d, k, OUTSIDE);
            }
        });
        t.test(20, "UNKNOWN; OUTSIDE: in this order", () -> {
            opened("house and d", 2, 0, 0, UNKNOWN);
            opened("k and d", 0, 31, 2, UNKNOWN);
            opened("k and d", 0, 0, -2, UNKNOWN);
        });
    }

    // ---- promise 21

    private static void keeps(Counted x, int room, int way, int ticks, int set, int... sides) {
        Due.row(x, 0, sides);
        StringBuilder row = new StringBuilder();
        for (int side : sides) row.append(' ').append(side);
        t.due("TICKS of" + row, x.keeps(0, room, way, 0, 2, 0, sides.length, 0), ticks);
        t.due("the way of" + row, x.keeps(0, room, way, 0, 2, 0, sides.length, 1), set);
        t.due("fault()", x.fault(), 0);
    }

    private static void keeps() {
        t.test(21, "Terms 4: some SIDES told (1 to 8): 1, 8", () -> {
            keeps(of("w1h1;ommmo"), 0, 0, 2, 0, 1);
            keeps(of("w1h1;ommmm"), 0, 0, 2, 1, 3);
            // a way from room 3 to room 0 alone, by sides 3, 4, 0, out by 1
            keeps(of(Due.all(2, 1, 'm')), 3, 2, 4, 0b00010111, 0, 1, 3, 2, 4, 5, 7, 8);
            // room 0 is shut in but for side 0; the walker is out at once
            keeps(of(Due.with(Due.all(4, 3, 'o'), 'm', 0, 1, 2)), 23, 2, 1, 0b10000000, 3, 6, 9, 12, 15, 18, 21, 0);
        });
        t.test(21, "Terms 4: as a number: bit k, if the k-th is OPEN", () -> {
            keeps(of("w1h1;ommmm"), 0, 0, 2, 1, 4, 1);
            keeps(of("w1h1;ommmm"), 0, 0, 2, 2, 1, 4);
            keeps(of("w1h1;mmmmm"), 0, 0, 1, 0b101, 1, 2, 3);
            keeps(of("w1h1;mmmmm"), 0, 0, 1, 0b011, 3, 2, 1);
            keeps(of("w1h1;mmmmm"), 0, 0, 2, 0b101, 0, 1, 3);
        });
        t.test(21, "Terms 4: of several the least number", () -> {
            keeps(of("w1h1;ommmo"), 0, 0, 2, 0, 3);
            keeps(of("w1h1;ommmm"), 0, 0, 2, 1, 3, 4);
            // to room 1, that is shut but for side 0, and back
            keeps(of("w1h1;oooom"), 0, 1, 3, 0, 3, 1, 4);
        });
        t.test(21, "Terms 4: with which the HOUSE is FAIR: from each ROOM, not from that of the WALKER alone", () -> {
            keeps(of("w1h1;mommm"), 0, 0, 1, 1, 3);
            keeps(of("w1h1;mommm"), 0, 0, 1, 1, 3, 4);
            keeps(of("w1h1;mommm"), 0, 0, NONE, NONE, 2);
        });
        t.test(21, "NONE: there is none: it is FAIR by no way", () -> {
            keeps(of(Due.all(1, 1, 'm')), 0, 0, NONE, NONE, 1);
            keeps(of(Due.all(1, 1, 'm')), 0, 0, NONE, NONE, 1, 2);
            keeps(of(Due.all(4, 3, 'm')), 23, 2, NONE, NONE, 0, 1, 2, 3, 4, 5, 6, 42);
        });
        t.test(21, "NONE: there is none: as well behind one that there was", () -> {
            Counted x = of("w1h1;ommmm");
            keeps(x, 0, 0, 2, 1, 3, 4);
            keeps(x, 0, 0, NONE, NONE, 0);
            keeps(x, 0, 0, 2, 1, 4);
        });
        t.test(21, "Terms 4: OUT in the most TICKS (200 at most; others do not count): it goes round for ever", () -> {
            String text = Due.with(Due.all(2, 2, 'm'), 'o', 1, 3, 4, 6, 8, 9, 10, 11);
            Counted x = of(text);
            keeps(x, 1, 1, NONE, NONE, 0);
            keeps(x, 2, 0, NONE, NONE, 0);
            keeps(x, 0, 0, 1, 1, 0);
            // with side 5, a border of room 2, it is once round and into room 7: 2 1 4 5 6 7 6 3 2
            keeps(x, 2, 0, 9, 2, 0, 5);
        });
        t.test(21, "Terms 4: the most TICKS: not those till a near BORDER", () -> {
            String way = "w4h1;oom" + "oom" + "oom" + "oom" + "o" + "mmmm";
            keeps(of(way), 0, 0, 8, 0, 1);
            keeps(of(way), 0, 0, 8, 2, 1, 12);
            // from the one end to the other, that is shut, and back
            keeps(of(way), 7, 1, 15, 2, 1, 12);
            // by all the 22 and into room 2
            keeps(of(longest()), 0, 2, 24, 0, 1, 2);
        });
    }

    private static void waysOfKeeps() {
        t.test(21, "Terms 4: from a ROOM, that CAME by a WAY: each of them is of matter", () -> {
            Counted x = of("w1h1;ooooo");
            keeps(x, 0, 0, 2, 0, 1);
            keeps(x, 0, 1, 2, 0, 1);
            keeps(x, 0, 2, 1, 0, 1);
            keeps(x, 1, 0, 2, 0, 3);
            keeps(x, 1, 1, 1, 0, 3);
            keeps(x, 1, 2, 1, 0, 3);
        });
        t.test(21, "Terms 4: each of these GLASS or OPEN: what they are now is of no matter; they stay so", () -> {
            for (int kind = 0; kind < 3; kind++) {
                Counted x = of("w1h1;ommmo");
                x.pane(0, 1, kind);
                keeps(x, 0, 0, 2, 0, 1);
                t.due("side 1", x.ofSide(0, 1, 0), kind);
                keeps(x, 0, 0, 2, 2, 1, 4);
                t.due("side 1", x.ofSide(0, 1, 0), kind);
                t.due("side 4", x.ofSide(0, 4, 0), 2);
                t.due("smeared", x.ofHouse(0, 7), 0);
                t.due("walkers", x.many(3), 0);
            }
        });
        t.test(21, "by n such cells (SIDES): SIDE 0, the last one; of each SORT, from i on", () -> {
            Counted x = of("w1h1;mmomm");
            keeps(x, 0, 1, 3, 1, 0, 4);
            for (int sort = 0; sort < 3; sort++) {
                Counted y = of("w1h1;ommmo");
                y.sheet(1, sort, 6);
                for (int k = 0; k < 6; k++) y.put(1, k, new int[] {9, -1, 1, 4, 4, 1}[k]);
                t.due("from 2 on", y.keeps(0, 0, 0, 1, sort, 2, 2, 1), 2);
                t.due("from 4 on", y.keeps(0, 0, 0, 1, sort, 4, 2, 1), 1);
                t.due("the last cell", y.keeps(0, 0, 0, 1, sort, 5, 1, 1), 0);
            }
        });
    }

    private static int[] by(int... numbers) {
        return numbers;
    }

    private static void keeps(String call, Cases.Recipe recipe, int[] a, int want, int fault) {
        t.refused("keeps " + call, recipe, x -> x.keeps(a[0], a[1], a[2], a[3], a[4], a[5], a[6], a[7]), want, fault);
    }

    private static void keeps(String call, int[] a, int want, int fault) {
        keeps(call, Recipes.SOME, a, want, fault);
    }

    /** House 0 of 2 by 1; sheet 0: bytes 0, 1 .. 9, 0, -1. */
    private static Counted told() {
        Counted x = of("w2h1;ooooooooo");
        x.sheet(0, 0, 12);
        for (int k = 0; k < 10; k++) x.put(0, k, k);
        x.put(0, 11, -1);
        return x;
    }

    private static final Cases.Recipe TOLD = BoundsWaysOutTest::told;

    private static void refusalsOfKeeps() {
        t.test(21, "UNKNOWN: SHEET, HOUSE, ROOM", () -> {
            for (int k : new int[] {-1, 4, LEAST, MOST}) keeps("sheet " + k, by(0, 0, 0, k, 2, 1, 2, 0), UNKNOWN, 0);
            for (int h : new int[] {-1, 2, 3, LEAST, MOST}) keeps("house " + h, by(h, 0, 0, 1, 2, 1, 2, 0), UNKNOWN, 0);
            for (int room : new int[] {-1, 4, 24, LEAST, MOST}) keeps("room " + room, by(0, room, 0, 1, 2, 1, 2, 0), UNKNOWN, 0);
            t.due("the last room", told().keeps(0, 3, 0, 0, 0, 0, 1, 0), 2);
        });
        t.test(21, "OUTSIDE: sort (0 .. 2)", () -> {
            for (int sort : new int[] {-1, 3, LEAST, MOST}) keeps("sort " + sort, by(0, 0, 0, 1, sort, 1, 2, 0), OUTSIDE, 0);
        });
        t.test(21, "OUTSIDE: way (0 .. 2)", () -> {
            for (int way : new int[] {-1, 3, LEAST, MOST}) keeps("way " + way, by(0, 0, way, 1, 2, 1, 2, 0), OUTSIDE, 0);
        });
        t.test(21, "OUTSIDE: what is 0, 1", () -> {
            for (int what : new int[] {-1, 2, LEAST, MOST}) keeps("what " + what, by(0, 0, 0, 1, 2, 1, 2, what), OUTSIDE, 0);
        });
        t.test(21, "FAULTS CAST", () -> {
            keeps("ints as bytes", by(0, 0, 0, 1, 0, 1, 2, 0), -12, 2);
            keeps("ints as shorts", by(0, 0, 0, 1, 1, 1, 2, 0), -12, 2);
            keeps("bytes as ints", by(0, 0, 0, 0, 2, 1, 2, 0), -12, 2);
            keeps("shorts as ints", by(0, 0, 0, 2, 2, 0, 0, 0), -12, 2);
        });
        t.test(21, "FAULTS NULL (nothing is no CAST)", () -> {
            for (int sort = 0; sort < 3; sort++) keeps("of nothing, sort " + sort, by(0, 0, 0, 3, sort, 0, 1, 0), -11, 1);
        });
        t.test(21, "FAULTS SIZE: a length below 0", () -> {
            for (int n : new int[] {-1, LEAST}) keeps("n " + n, by(0, 0, 0, 1, 2, 1, n, 0), -14, 4);
        });
        t.test(21, "FAULTS INDEX", () -> {
            keeps("10 from 1 on", by(0, 0, 0, 1, 2, 1, 10, 0), -13, 3);
            keeps("one behind the last", by(0, 0, 0, 1, 2, 10, 1, 0), -13, 3);
            keeps("from -1 on", by(0, 0, 0, 1, 2, -1, 2, 0), -13, 3);
            keeps("from 1, the most", by(0, 0, 0, 1, 2, 1, MOST, 0), -13, 3);
            keeps("from the most", by(0, 0, 0, 1, 2, MOST, 1, 0), -13, 3);
            keeps("from the least", by(0, 0, 0, 1, 2, LEAST, 1, 0), -13, 3);
        });
        t.test(21, "INDEX (of cells from i on also where i is not 0 .. how many there are, if none of them is taken, too)", () -> {
            keeps("none from -1 on", by(0, 0, 0, 1, 2, -1, 0, 0), -13, 3);
            keeps("none from 10 on: n is not as it must", by(0, 0, 0, 1, 2, 10, 0, 0), OUTSIDE, 0);
            keeps("none from 11 on", by(0, 0, 0, 1, 2, 11, 0, 0), -13, 3);
            keeps("none of none from 0 on", by(0, 0, 0, 2, 1, 0, 0, 0), OUTSIDE, 0);
            keeps("none of none from 1 on", by(0, 0, 0, 2, 1, 1, 0, 0), -13, 3);
        });
        t.test(21, "OUTSIDE: n is not 1 .. 8", () -> {
            keeps("n 0", TOLD, by(0, 0, 0, 0, 0, 0, 0, 0), OUTSIDE, 0);
            t.due("n 1", told().keeps(0, 0, 0, 0, 0, 0, 1, 0), 1);
            t.due("n 8", told().keeps(0, 0, 0, 0, 0, 0, 8, 0) > 0 ? 1 : 0, 1);
            keeps("n 9", TOLD, by(0, 0, 0, 0, 0, 0, 9, 0), OUTSIDE, 0);
            keeps("n 10", TOLD, by(0, 0, 0, 0, 0, 0, 10, 0), OUTSIDE, 0);
            keeps("n 60", Recipes.FULL, by(0, 0, 0, 0, 0, 0, 60, 0), OUTSIDE, 0);
        });
        t.test(21, "UNKNOWN: a SIDE: -1, as many as there are", () -> {
            keeps("side -1", TOLD, by(0, 0, 0, 0, 0, 11, 1, 0), UNKNOWN, 0);
            keeps("side 9", TOLD, by(0, 0, 0, 0, 0, 9, 1, 0), UNKNOWN, 0);
            t.due("side 8", told().keeps(0, 0, 0, 0, 0, 8, 1, 0), 1);
            keeps("side 9, the last of the row", TOLD, by(0, 0, 0, 0, 0, 2, 8, 0), UNKNOWN, 0);
            keeps("side 9, the first of the row", TOLD, by(0, 0, 0, 0, 0, 9, 2, 0), UNKNOWN, 0);
            for (int side : new int[] {256, 65536, LEAST, MOST}) {
                Counted x = told();
                Due.row(x, 1, side);
                t.due("side " + side, x.keeps(0, 0, 0, 1, 2, 0, 1, 0), UNKNOWN);
            }
        });
        t.test(21, "OUTSIDE: one is told twice: beside it, as the first and the last", () -> {
            for (int[] row : new int[][] {{1, 1}, {1, 2, 1}, {0, 1, 2, 3, 4, 5, 6, 0}, {0, 1, 2, 3, 4, 5, 8, 8}, {8, 8, 1}}) {
                keeps("twice", () -> {
                    Counted x = told();
                    Due.row(x, 1, row);
                    return x;
                }, by(0, 0, 0, 1, 2, 0, row.length, 0), OUTSIDE, 0);
            }
        });
        t.test(21, "UNKNOWN; OUTSIDE: sort, way, what; FAULTS CAST, NULL, SIZE, INDEX; OUTSIDE: n; UNKNOWN: a SIDE; OUTSIDE: twice: in this order", () -> {
            keeps("sheet and sort", by(0, 0, 0, 4, 3, 1, 2, 0), UNKNOWN, 0);
            keeps("house and way", by(2, 0, 3, 1, 2, 1, 2, 0), UNKNOWN, 0);
            keeps("room and what", by(0, 4, 0, 1, 2, 1, 2, 2), UNKNOWN, 0);
            keeps("house and null", by(2, 0, 0, 3, 2, 1, 2, 0), UNKNOWN, 0);
            keeps("sort of nothing", by(0, 0, 0, 3, 3, 0, 1, 0), OUTSIDE, 0);
            keeps("way and cast", by(0, 0, 3, 1, 0, 1, 2, 0), OUTSIDE, 0);
            keeps("what and null", by(0, 0, 0, 3, 2, 1, 2, 2), OUTSIDE, 0);
            keeps("what and size", by(0, 0, 0, 1, 2, 1, -1, -1), OUTSIDE, 0);
            keeps("way and index", by(0, 0, -1, 1, 2, 11, 1, 0), OUTSIDE, 0);
            keeps("cast and size, index", by(0, 0, 0, 1, 0, -1, -1, 0), -12, 2);
            keeps("cast and n", by(0, 0, 0, 1, 0, 0, 9, 0), -12, 2);
            keeps("null and size", by(0, 0, 0, 3, 2, -1, -1, 0), -11, 1);
            keeps("size and index", by(0, 0, 0, 1, 2, 11, -1, 0), -14, 4);
            keeps("index and n", by(0, 0, 0, 1, 2, 2, 9, 0), -13, 3);
            keeps("index and a side", by(0, 0, 0, 1, 2, 6, 5, 0), -13, 3);
            keeps("n and a side, twice", by(0, 0, 0, 1, 2, 0, 9, 0), OUTSIDE, 0);
            keeps("a side and twice", by(0, 0, 0, 1, 2, 0, 4, 0), UNKNOWN, 0);
            keeps("twice ahead of a side", by(0, 0, 0, 1, 2, 2, 5, 0), UNKNOWN, 0);
        });
    }

    // ---- promises 22, 23

    private static void changed() {
        t.test(22, "of which at most 10 SIDES are not alike: 10: how many rows", () -> {
            String other = Due.with(Due.all(4, 3, 'o'), 'm', 0, 3, 6, 9, 12, 15, 18, 21, 24, 42);
            Counted x = of(Due.all(4, 3, 'o'), other);
            t.due("10 SIDES", x.changed(0, 1), 3628800);
            t.due("and back", x.changed(1, 0), 3628800);
            x.pane(1, 42, 2);
            t.due("9 SIDES", x.changed(0, 1), 362880);
        });
        t.test(22, "STATE: of which at most 10 SIDES are not alike: 11, all", () -> {
            String other = Due.with(Due.all(4, 3, 'o'), 'm', 0, 3, 6, 9, 12, 15, 18, 21, 24, 27, 42);
            t.refused("11 SIDES", () -> of(Due.all(4, 3, 'o'), other), x -> x.changed(0, 1), LOST, Cases.STAYS);
            t.refused("11 SIDES back", () -> of(Due.all(4, 3, 'o'), other), x -> x.changed(1, 0), LOST, Cases.STAYS);
            t.refused("43 SIDES", () -> of(Due.all(4, 3, 'o'), Due.all(4, 3, 'g')), x -> x.changed(0, 1), LOST, Cases.STAYS);
        });
        t.test(22, "no SIDES that are not alike: one row, of none, if it is FAIR; else none", () -> {
            t.due("fair", of(Due.all(1, 1, 'o'), Due.all(1, 1, 'o')).changed(0, 1), 1);
            t.due("not fair", of(Due.all(1, 1, 'm'), Due.all(1, 1, 'm')).changed(0, 1), 0);
        });
        t.test(22, "one SIDE that is not alike: MIRROR, GLASS, OPEN, each by each", () -> {
            for (int from = 0; from < 3; from++) {
                for (int to = 0; to < 3; to++) {
                    Counted x = of(Due.with(Due.all(1, 1, 'o'), "mgo".charAt(from), 0), Due.with(Due.all(1, 1, 'o'), "mgo".charAt(to), 0));
                    t.due("rows", x.changed(0, 1), 1);
                    t.due("the first", x.change(0, 1, 0), from == to ? NONE : 0);
                }
            }
        });
        t.test(22, "with which it is FAIR ahead of all", () -> {
            Counted x = of("w1h1;mmmoo", "w1h1;ommoo");
            t.due("not fair ahead", x.changed(0, 1), 0);
            t.due("not fair behind", x.changed(1, 0), 0);
        });
        t.test(22, "with which it is FAIR behind each: but for one of two rows", () -> {
            Counted x = of("w1h1;mogom", "w1h1;mmoom");
            t.due("rows", x.changed(0, 1), 1);
            t.due("the first", x.change(0, 1, 0), 2);
            t.due("then", x.change(0, 1, 1), 1);
            t.due("rows back", x.changed(1, 0), 1);
            t.due("the first", x.change(1, 0, 0), 1);
        });
        t.test(22, "how many rows: none: it is not FAIR behind the last; all of them, if all are FAIR", () -> {
            t.due("none", of("w2h1;ommommmoo", "w2h1;mmmmmmmmm").changed(0, 1), 0);
            t.due("all", of("w1h1;oogmm", "w1h1;oomgm").changed(0, 1), 2);
            t.due("all", of("w1h1;oogmm", "w1h1;oomgg").changed(0, 1), 6);
        });
        t.test(22, "how many rows: those in which what must be OPEN is so ahead of what is shut", () -> {
            t.due("6 of 24", of("w1h1;mogog", "w1h1;mgogo").changed(0, 1), 6);
            // 2 or 3 must be open ahead of 1 being shut; side 4 is of no matter
            t.due("16 of 24", of("w1h1;oommm", "w1h1;omoog").changed(0, 1), 16);
        });
        t.test(22, "SMEARS are no difference of SIDES", () -> {
            Counted x = of("w1h1;oggoo", "w1h1;oggoo");
            x.walker(1, 0, 0, 0);
            x.walker(1, 0, 0, 2);
            x.ticks(0, 1);
            t.due("smeared", x.ofHouse(0, 7) > 0 ? 1 : 0, 1);
            t.due("rows", x.changed(0, 1), 1);
        });
    }

    private static void rows() {
        t.test(23, "the first: of all rows that of the least SIDE first, then next", () -> {
            Counted x = of(Due.all(4, 3, 'o'), Due.with(Due.all(4, 3, 'o'), 'g', 42, 0, 3, 6, 9, 12, 15, 18, 21, 24));
            int[] sides = {0, 3, 6, 9, 12, 15, 18, 21, 24, 42};
            for (int k = 0; k < 10; k++) {
                t.due("the " + k + "-th", x.change(0, 1, k), sides[k]);
                t.due("the " + k + "-th back", x.change(1, 0, k), sides[k]);
            }
        });
        t.test(23, "the first of those rows with which it is FAIR: not that of the least SIDE first", () -> {
            Counted x = of("w1h1;mogog", "w1h1;mgogo");
            t.due("rows", x.changed(0, 1), 6);
            int[] sides = {2, 1, 4, 3};
            for (int k = 0; k < 4; k++) t.due("the " + k + "-th", x.change(0, 1, k), sides[k]);
        });
        t.test(23, "NONE: behind the last SIDE of the row, k up to 9", () -> {
            Counted x = of("w1h1;mogog", "w1h1;mgogo");
            for (int k = 4; k < 10; k++) t.due("the " + k + "-th", x.change(0, 1, k), NONE);
        });
        t.test(23, "NONE: there are no SIDES to change, or no row", () -> {
            t.due("not fair ahead, fair behind", of("w1h1;mmmoo", "w1h1;ommoo").change(0, 1, 0), NONE);
            t.due("fair ahead, not behind", of("w1h1;ommoo", "w1h1;mmmoo").change(0, 1, 0), NONE);
            for (int k = 0; k < 10; k++) {
                t.due("alike", of(Due.all(1, 1, 'o'), Due.all(1, 1, 'o')).change(0, 1, k), NONE);
                t.due("no row", of(Due.all(1, 1, 'm'), Due.all(1, 1, 'o')).change(0, 1, k), NONE);
                t.due("no row", of(Due.all(1, 1, 'o'), Due.all(1, 1, 'm')).change(0, 1, k), NONE);
            }
        });
        t.test(23, "HOUSES stay as they are", () -> {
            Counted x = of(Due.all(1, 1, 'o'), "w1h1;oommo");
            t.due("rows", x.changed(0, 1), 2);
            t.due("the first", x.change(0, 1, 0), 2);
            t.due("open in 0", x.ofHouse(0, 6), 5);
            t.due("open in 1", x.ofHouse(1, 6), 3);
            t.due("rows", x.changed(0, 1), 2);
        });
    }

    /** Houses 2 by 3, 3 by 2, 2 by 2. */
    private static Counted unlike() {
        return of(Due.all(2, 3, 'o'), Due.all(3, 2, 'o'), Due.all(2, 2, 'o'));
    }

    private static final Cases.Recipe UNLIKE = BoundsWaysOutTest::unlike;

    private static void changed(String call, Cases.Recipe recipe, int h, int other) {
        t.refused("changed " + call, recipe, x -> x.changed(h, other), LOST, Cases.STAYS);
    }

    private static void refusalsOfChanged() {
        t.test(22, "LOST: UNKNOWN: the one, the other", () -> {
            for (int h : new int[] {-1, 2, 3, LEAST, MOST}) {
                changed("of house " + h, Recipes.SOME, h, 0);
                changed("into house " + h, Recipes.SOME, 0, h);
                changed("of and into house " + h, Recipes.SOME, h, h);
            }
            changed("of house 3", Recipes.FULL, 3, 0);
            t.due("the last one", Recipes.FULL.make().changed(0, 2), 1);
        });
        t.test(22, "LOST: OUTSIDE: it is the same HOUSE", () -> {
            for (int h = 0; h < 2; h++) changed("into itself " + h, Recipes.SOME, h, h);
            changed("into itself 2", Recipes.FULL, 2, 2);
        });
        t.test(22, "LOST: STATE: it is not as told: alike in W and H", () -> {
            changed("as many ROOMS", UNLIKE, 0, 1);
            changed("as many ROOMS", UNLIKE, 1, 0);
            changed("another H", UNLIKE, 0, 2);
            changed("another H", UNLIKE, 2, 0);
            changed("another W", UNLIKE, 1, 2);
            changed("another W", UNLIKE, 2, 1);
        });
    }

    private static void change(String call, Cases.Recipe recipe, int h, int other, int k, int want) {
        t.refused("change " + call, recipe, x -> x.change(h, other, k), want, Cases.STAYS);
    }

    private static void change() {
        t.test(23, "UNKNOWN: HOUSES", () -> {
            for (int h : new int[] {-1, 2, 3, LEAST, MOST}) {
                change("of house " + h, Recipes.SOME, h, 0, 0, UNKNOWN);
                change("into house " + h, Recipes.SOME, 0, h, 0, UNKNOWN);
                change("of and into house " + h, Recipes.SOME, h, h, 0, UNKNOWN);
            }
            change("of house 3", Recipes.FULL, 3, 0, 0, UNKNOWN);
        });
        t.test(23, "UNKNOWN: k (0 .. 9)", () -> {
            for (int k : new int[] {-1, 10, LEAST, MOST}) change("k " + k, Recipes.SOME, 0, 1, k, UNKNOWN);
            Counted x = of(Due.all(1, 1, 'o'), Due.all(1, 1, 'g'));
            x.pane(1, 1, 2);
            x.pane(1, 3, 2);
            t.due("k 0", x.change(0, 1, 0), 0);
            t.due("k 2", x.change(0, 1, 2), 4);
            t.due("k 9", x.change(0, 1, 9), NONE);
        });
        t.test(23, "OUTSIDE as changed(): it is the same HOUSE", () -> {
            for (int h = 0; h < 2; h++) change("into itself " + h, Recipes.SOME, h, h, 0, OUTSIDE);
        });
        t.test(23, "STATE as changed(): alike in W and H, at most 10 SIDES", () -> {
            change("as many ROOMS", UNLIKE, 0, 1, 0, STATE);
            change("another H", UNLIKE, 0, 2, 9, STATE);
            change("another W", UNLIKE, 1, 2, 0, STATE);
            String other = Due.with(Due.all(4, 3, 'o'), 'm', 0, 3, 6, 9, 12, 15, 18, 21, 24, 27, 42);
            change("11 SIDES", () -> of(Due.all(4, 3, 'o'), other), 0, 1, 0, STATE);
        });
        t.test(23, "UNKNOWN: HOUSES, k; OUTSIDE, STATE: in this order", () -> {
            change("k and the same", Recipes.SOME, 0, 0, 10, UNKNOWN);
            change("k and the same", Recipes.SOME, 1, 1, -1, UNKNOWN);
            change("k and unlike ones", UNLIKE, 0, 1, 10, UNKNOWN);
            change("k and unlike ones", UNLIKE, 2, 1, -1, UNKNOWN);
        });
    }
}
