/** The boundary cases of promises 1 to 6 and of Terms 1, each in a test of its own. */
public final class BoundsHousesTest {
    private static final int UNKNOWN = -1, OUTSIDE = -2, STATE = -3, FULL = -4, NONE = -9;
    private static final int LEAST = Integer.MIN_VALUE, MOST = Integer.MAX_VALUE;
    private static final Cases t = new Cases();

    public static void main(String[] args) {
        newObject();
        calls();
        houses();
        texts();
        cells();
        faults();
        full();
        ofHouse();
        ofSide();
        side();
        pane();
        t.end(1, 6);
    }

    // ---- promise 1

    private static void newObject() {
        t.test(1, "No HOUSES", () -> {
            Counted x = Recipes.NEW.make();
            t.due("many(0)", x.many(0), 0);
            t.due("ofHouse(0, 0)", x.ofHouse(0, 0), UNKNOWN);
            t.due("ofSide(0, 0, 0)", x.ofSide(0, 0, 0), UNKNOWN);
            t.due("side(0, 0, 0)", x.side(0, 0, 0), UNKNOWN);
            t.due("pane(0, 0, 0)", x.pane(0, 0, 0), UNKNOWN);
            t.due("seen(0, 0, 1, 0, 1, 0)", x.seen(0, 0, 1, 0, 1, 0), UNKNOWN);
            t.due("met(0, 0, 1, 0, 0)", x.met(0, 0, 1, 0, 0), UNKNOWN);
            t.due("image(0, 0, 1, 1)", x.image(0, 0, 1, 1), UNKNOWN);
            t.due("images(0, 0, 0, 1, 0)", x.images(0, 0, 0, 1, 0), UNKNOWN);
            t.due("report(0, 0, 1, 1, true)", x.report(0, 0, 1, 1, true), UNKNOWN);
            t.due("spots(0)", x.spots(0), UNKNOWN);
            t.due("taken(0)", x.taken(0), UNKNOWN);
            t.due("walker(0, 0, 0, 0)", x.walker(0, 0, 0, 0), UNKNOWN);
            t.due("ticks(0, 0)", x.ticks(0, 0), UNKNOWN);
            t.due("shut(0)", x.shut(0), UNKNOWN);
            t.due("far(0, 0)", x.far(0, 0), UNKNOWN);
            t.due("opened(0, 1, -1)", x.opened(0, 1, -1), UNKNOWN);
            t.due("changed(0, 1)", x.changed(0, 1), MirrorHouse.LOST);
            t.due("change(0, 1, 0)", x.change(0, 1, 0), UNKNOWN);
            x.sheet(0, 0, 1);
            t.due("keeps(0, 0, 0, 0, 0, 0, 1, 0)", x.keeps(0, 0, 0, 0, 0, 0, 1, 0), UNKNOWN);
            t.due("the first house", Due.build(x, Due.all(1, 1, 'm')), 0);
        });
        t.test(1, "No REPORTS", () -> {
            Counted x = Recipes.NEW.make();
            t.due("many(1)", x.many(1), 0);
            Due.build(x, Due.all(1, 1, 'm'));
            t.due("spots(0): all rooms fit", x.spots(0), 3);
            t.due("the first report", x.report(0, 0, 1, 1, true), 0);
        });
        t.test(1, "No WALKERS", () -> {
            Counted x = Recipes.NEW.make();
            t.due("many(3)", x.many(3), 0);
            t.due("many(4)", x.many(4), 0);
            t.due("ofWalker(0, 0)", x.ofWalker(0, 0), UNKNOWN);
            t.due("tell(0)", x.tell(0), UNKNOWN);
            t.due("greet(0)", x.greet(0), UNKNOWN);
            t.due("as(0, 0)", x.as(0, 0), UNKNOWN);
            Due.build(x, Due.all(1, 1, 'o'));
            t.due("ticks(0, 200)", x.ticks(0, 200), 0);
            t.due("the first walker", x.walker(0, 0, 0, 0), 0);
        });
        t.test(1, "No SHEETS", () -> {
            for (int k = 0; k < 4; k++) {
                Counted x = Recipes.NEW.make();
                t.due("cell of " + k, x.cell(k, 0, 0), MirrorHouse.LOST);
                t.due("its fault", x.fault(), 1);
                t.due("put to " + k, x.put(k, 0, 0), -11);
                t.due("lose " + k, x.lose(k), 0);
            }
        });
        t.test(1, "no PHOTOGRAPH", () -> {
            Counted x = Recipes.NEW.make();
            t.due("many(2)", x.many(2), 0);
            Due.build(x, Due.all(1, 1, 'm'));
            t.due("taken(0)", x.taken(0), STATE);
        });
        t.test(1, "A new object: TRACE 0, no fault", () -> {
            Counted x = Recipes.NEW.make();
            t.due("trace()", x.trace(), 0);
            t.due("fault()", x.fault(), 0);
        });
        t.test(1, "A new object: it has nothing of another one, and gives it nothing", () -> {
            Counted other = Recipes.FULL.make();
            Counted x = Recipes.NEW.make();
            t.due("as new", State.of(x).equals(State.of(Recipes.NEW.make())) ? 1 : 0, 1);
            Recipes.SOME.make();
            t.due("the other as it was", State.of(other).equals(State.of(Recipes.FULL.make())) ? 1 : 0, 1);
        });
    }

    private static void calls() {
        t.test(1, "What it is: An object is used for at most 512 calls after it has been made", () -> {
            Counted x = Recipes.FULL.make();
            int trace = x.trace();
            while (x.calls() < 510) {
                x.greet(0);
                trace = 31 * trace + 4;
            }
            t.due("the 511th: trace()", x.trace(), trace);
            t.due("the 512th: many(3)", x.many(3), 8);
            t.due("calls", x.calls(), 512);
        });
    }

    // ---- promise 2 and Terms 1

    private static void houses() {
        t.test(2, "Terms 1: W by H (1 .. 4 by 1 .. 3): each of them", () -> {
            for (int w = 1; w <= 4; w++) {
                for (int h = 1; h <= 3; h++) {
                    Counted x = new Counted();
                    t.due("house " + w + " by " + h, Due.build(x, Due.all(w, h, 'o')), 0);
                    t.due("W", x.ofHouse(0, 0), w);
                    t.due("H", x.ofHouse(0, 1), h);
                    t.due("ROOMS", x.ofHouse(0, 2), 2 * w * h);
                    t.due("SIDES", x.ofHouse(0, 3), 3 * w * h + w + h);
                }
            }
        });
        t.test(2, "Terms 1: w and a digit 1 .. 4: neither 0 nor 5", () -> {
            badCode("w0h1;ooooo", -101);
            badCode("w5h1;" + "o".repeat(21), -101);
            for (char c : new char[] {'/', '0', '5', '6', '9', ':', 'w', 1, 4}) badCode("w" + c + "h1;ooooo", -101);
        });
        t.test(2, "Terms 1: h and a digit 1 .. 3: neither 0 nor 4", () -> {
            badCode("w1h0;o", -103);
            badCode("w1h4;" + "o".repeat(17), -103);
            for (char c : new char[] {'/', '0', '4', '5', '9', ':', 'h', 1, 3}) badCode("w1h" + c + ";ooooo", -103);
        });
        t.test(2, "Terms 1: a letter for each SIDE in order: m, g, o", () -> {
            for (int k = 0; k < 5; k++) {
                for (int kind = 0; kind < 3; kind++) {
                    Counted x = new Counted();
                    Due.build(x, Due.with(Due.all(1, 1, "gom".charAt(kind)), "mgo".charAt(kind), k));
                    for (int s = 0; s < 5; s++) t.due("side " + s, x.ofSide(0, s, 0), s == k ? kind : (kind + 1) % 3);
                }
            }
            Counted x = new Counted();
            StringBuilder text = new StringBuilder("w4h3;");
            for (int k = 0; k < 43; k++) text.append("mgo".charAt(k * k % 7 % 3));
            t.due("house", Due.build(x, text.toString()), 0);
            for (int k = 0; k < 43; k++) t.due("side " + k, x.ofSide(0, k, 0), k * k % 7 % 3);
        });
    }

    /** A text whose code at the place told by the answer is the first with which no text goes on. */
    private static void badCode(String text, int want) {
        Counted x = new Counted();
        t.due("house by " + text, Due.build(x, text), want);
        t.due("houses", x.many(0), 0);
        t.due("fault", x.fault(), 0);
    }

    private static void texts() {
        t.test(2, "Terms 1: Codes: w 119, h 104, ; 59, m 109, g 103, o 111, digits 48 .. 57: not the codes beside these", () -> {
            for (char c : new char[] {118, 120, 'W', 'h', ' ', 0}) badCode(c + "1h1;ooooo", -100);
            for (char c : new char[] {103, 105, 'H', 'w', ' ', 0}) badCode("w1" + c + "1;ooooo", -102);
            for (char c : new char[] {58, 60, ',', ':', ' ', 0}) badCode("w1h1" + c + "ooooo", -104);
            for (char c : new char[] {108, 110, 102, 104, 112, 'M', 'G', 'O', '0', ';', ' ', 0}) {
                for (int k = 0; k < 5; k++) badCode("w1h1;" + "omgom".substring(0, k) + c + "omgom".substring(k + 1), -105 - k);
            }
        });
        t.test(2, "Terms 1: FIRST FAULT: the first code with which no TEXT goes on, of several", () -> {
            badCode("x0x0x", -100);
            badCode("w5h9;xxxxx", -101);
            badCode("w1x0;xxxxx", -102);
            badCode("w1h1;omxxx", -107);
            badCode("w1h1;omgoxx", -109);
        });
        t.test(2, "Terms 1: FIRST FAULT: the code behind a whole TEXT is one with which none goes on", () -> {
            badCode("w1h1;omgomo", -110);
            badCode("w1h1;omgom" + (char) 0, -110);
            badCode(Due.all(4, 3, 'g') + "g", -148);
            badCode(Due.all(4, 3, 'g') + "x".repeat(12), -148);
            badCode("w1h1;" + "o".repeat(55), -110);
        });
        t.test(2, "Terms 1: how many codes there are, if it just ends too soon: the least TEXT", () -> {
            endsTooSoon("w1h1;omgom");
        });
        t.test(2, "Terms 1: how many codes there are, if it just ends too soon: the longest TEXT", () -> {
            endsTooSoon(Due.all(4, 3, 'm'));
        });
        t.test(2, "Terms 1: FIRST FAULT ahead of an end that comes too soon", () -> {
            badCode("x", -100);
            badCode("w1h1", -104);
            badCode("w1h1x", -104);
            badCode("w4h3;mmmx", -108);
        });
        t.test(2, "Terms 1: GLASS may be SMEARED (none at first)", () -> {
            Counted x = new Counted();
            Due.build(x, Due.all(4, 3, 'g'));
            t.due("smeared ones", x.ofHouse(0, 7), 0);
            for (int k = 0; k < 43; k++) t.due("side " + k, x.ofSide(0, k, 4), 0);
        });
    }

    private static void endsTooSoon(String text) {
        for (int n = 0; n < text.length(); n++) {
            Counted x = new Counted();
            Due.write(x, 0, text);
            t.due(n + " codes of " + text, x.house(0, 0, 0, n), -100 - n);
            t.due("fault", x.fault(), 0);
            t.due("houses", x.many(0), 0);
        }
        Counted x = new Counted();
        Due.write(x, 0, text);
        t.due("all codes of " + text, x.house(0, 0, 0, text.length()), 0);
    }

    private static void cells() {
        t.test(2, "n cells of a SHEET from i on: at its begin, at its end, in its midst", () -> {
            for (int[] place : new int[][] {{0, 10}, {50, 60}, {17, 60}, {0, 60}}) {
                Counted x = new Counted();
                x.sheet(2, 0, place[1]);
                for (int k = 0; k < 10; k++) x.put(2, place[0] + k, "w1h1;mgogm".charAt(k));
                t.due("from " + place[0] + " of " + place[1], x.house(2, 0, place[0], 10), 0);
                for (int k = 0; k < 5; k++) t.due("side " + k, x.ofSide(0, k, 0), "mgo".indexOf("mgogm".charAt(k)));
            }
        });
        t.test(2, "taken as a row of a SORT: each of the three", () -> {
            for (int sort = 0; sort < 3; sort++) {
                Counted x = new Counted();
                x.sheet(1, sort, 10);
                for (int k = 0; k < 10; k++) x.put(1, k, "w1h1;mgogm".charAt(k));
                t.due("of sort " + sort, x.house(1, sort, 0, 10), 0);
                t.due("glass", x.ofHouse(0, 5), 2);
            }
        });
        t.test(2, "a code is the whole number in a cell: none that wraps to one, but what was cut to it", () -> {
            for (int sort = 0; sort < 3; sort++) {
                for (int place = 0; place < 10; place++) {
                    for (int more : new int[] {256, 65536, -256}) {
                        Counted x = new Counted();
                        x.sheet(0, sort, 10);
                        for (int k = 0; k < 10; k++) x.put(0, k, "w1h1;ooooo".charAt(k) + (k == place ? more : 0));
                        boolean cut = sort == 0 || sort == 1 && more == 65536;
                        t.due("sort " + sort + " place " + place + " and " + more, x.house(0, sort, 0, 10), cut ? 0 : -100 - place);
                    }
                }
            }
        });
        t.test(2, "a negative code is none", () -> {
            Counted x = new Counted();
            x.sheet(0, 0, 1);
            x.put(0, 0, -1);
            t.due("-1", x.house(0, 0, 0, 1), -100);
            x.put(0, 0, -128);
            t.due("-128", x.house(0, 0, 0, 1), -100);
        });
    }

    private static void house(String call, Cases.Recipe recipe, int[] a, int want, int fault) {
        t.refused("house " + call, recipe, x -> x.house(a[0], a[1], a[2], a[3]), want, fault);
    }

    private static int[] by(int... numbers) {
        return numbers;
    }

    private static void faults() {
        t.test(2, "UNKNOWN: SHEETS 0 .. 3", () -> {
            for (int k : new int[] {-1, 4, LEAST, MOST}) house("of sheet " + k, Recipes.SOME, by(k, 0, 0, 10), UNKNOWN, 0);
            for (int k : new int[] {0, 3}) {
                Counted x = new Counted();
                Due.write(x, k, "w1h1;ooooo");
                t.due("of sheet " + k, x.house(k, 0, 0, 10), 0);
            }
        });
        t.test(2, "OUTSIDE: sort (0 .. 2)", () -> {
            for (int sort : new int[] {-1, 3, LEAST, MOST}) house("sort " + sort, Recipes.SOME, by(0, sort, 0, 10), OUTSIDE, 0);
        });
        t.test(2, "CAST: of another sort, each of each", () -> {
            for (int sort = 0; sort < 3; sort++) {
                for (int other = 0; other < 3; other++) {
                    if (sort == other) continue;
                    Counted x = new Counted();
                    x.sheet(0, sort, 10);
                    for (int k = 0; k < 10; k++) x.put(0, k, "w1h1;ooooo".charAt(k));
                    t.due("sort " + sort + " as " + other, x.house(0, other, 0, 10), -12);
                    t.due("fault", x.fault(), 2);
                    t.due("houses", x.many(0), 0);
                }
            }
            house("cast", Recipes.SOME, by(0, 1, 0, 10), -12, 2);
        });
        t.test(2, "CAST (nothing is no CAST), NULL", () -> {
            for (int sort = 0; sort < 3; sort++) house("of nothing, sort " + sort, Recipes.SOME, by(3, sort, 0, 10), -11, 1);
            for (int sort = 0; sort < 3; sort++) house("of nothing ever, sort " + sort, Recipes.NEW, by(1, sort, 0, 0), -11, 1);
            Counted x = new Counted();
            Due.write(x, 0, "w1h1;ooooo");
            x.lose(0);
            t.due("of a lost one", x.house(0, 1, 0, 10), -11);
        });
        t.test(2, "SIZE: n is below 0", () -> {
            for (int n : new int[] {-1, -2, LEAST}) house("n " + n, Recipes.SOME, by(0, 0, 0, n), -14, 4);
            house("n 0 is none", Recipes.SOME, by(0, 0, 0, 0), -100, 0);
        });
        t.test(2, "INDEX: not all cells are there", () -> {
            house("to the end and one", Recipes.SOME, by(0, 0, 0, 11), -13, 3);
            house("one less from 2 on", Recipes.SOME, by(0, 0, 2, 9), -13, 3);
            house("from -1 on", Recipes.SOME, by(0, 0, -1, 10), -13, 3);
            house("the last one", Recipes.SOME, by(0, 0, 9, 1), -100, 0);
            house("one behind the last one", Recipes.SOME, by(0, 0, 10, 1), -13, 3);
            house("of a row of none", Recipes.SOME, by(2, 1, 0, 1), -13, 3);
            house("61 of 60", Recipes.FULL, by(0, 0, 0, 61), -13, 3);
        });
        t.test(2, "INDEX (of cells from i on also where i is not 0 .. how many there are, if none of them is taken, too)", () -> {
            house("none from -1 on", Recipes.SOME, by(0, 0, -1, 0), -13, 3);
            house("none from 0 on", Recipes.SOME, by(0, 0, 0, 0), -100, 0);
            house("none from 10 on", Recipes.SOME, by(0, 0, 10, 0), -100, 0);
            house("none from 11 on", Recipes.SOME, by(0, 0, 11, 0), -13, 3);
            house("none of none from 0 on", Recipes.SOME, by(2, 1, 0, 0), -100, 0);
            house("none of none from 1 on", Recipes.SOME, by(2, 1, 1, 0), -13, 3);
            house("none of none from -1 on", Recipes.SOME, by(2, 1, -1, 0), -13, 3);
            house("none from the least on", Recipes.SOME, by(0, 0, LEAST, 0), -13, 3);
            house("none from the most on", Recipes.SOME, by(0, 0, MOST, 0), -13, 3);
        });
        t.test(2, "INDEX: i and n that wrap around", () -> {
            house("from 1", Recipes.SOME, by(0, 0, 1, MOST), -13, 3);
            house("from 10", Recipes.SOME, by(0, 0, 10, MOST - 9), -13, 3);
            house("from the most", Recipes.SOME, by(0, 0, MOST, 1), -13, 3);
            house("from the most, the most", Recipes.SOME, by(0, 0, MOST, MOST), -13, 3);
            house("from the least, the most", Recipes.SOME, by(0, 0, LEAST, MOST), -13, 3);
            house("from -5", Recipes.SOME, by(0, 0, -5, 10), -13, 3);
        });
        t.test(2, "UNKNOWN; OUTSIDE: sort; FAULTS CAST, NULL, SIZE, INDEX; -100 less it; FULL: in this order", () -> {
            house("unknown and all behind", Recipes.FULL, by(4, 3, -1, -1), UNKNOWN, 0);
            house("sort of nothing", Recipes.SOME, by(3, 3, -1, -1), OUTSIDE, 0);
            house("sort and size, index", Recipes.SOME, by(0, 3, -1, -1), OUTSIDE, 0);
            house("sort and index", Recipes.SOME, by(0, -1, 11, 1), OUTSIDE, 0);
            house("cast and size, index", Recipes.SOME, by(0, 1, -1, -1), -12, 2);
            house("cast and index", Recipes.SOME, by(0, 2, 11, 1), -12, 2);
            house("null and size, index", Recipes.SOME, by(3, 0, -1, -1), -11, 1);
            house("null and index", Recipes.SOME, by(3, 0, 0, 1), -11, 1);
            house("size and index", Recipes.SOME, by(0, 0, -1, -1), -14, 4);
            house("size and index behind", Recipes.SOME, by(0, 0, 11, -1), -14, 4);
            house("index and a bad text", Recipes.SOME, by(0, 0, 1, 10), -13, 3);
            house("sort and full", Recipes.FULL, by(0, 3, 0, 10), OUTSIDE, 0);
            house("cast and full", Recipes.FULL, by(0, 1, 0, 10), -12, 2);
            house("size and full", Recipes.FULL, by(0, 0, 0, -1), -14, 4);
            house("index and full", Recipes.FULL, by(0, 0, 51, 10), -13, 3);
            house("a bad text and full", Recipes.FULL, by(0, 0, 0, 11), -110, 0);
            house("a text that ends and full", Recipes.FULL, by(0, 0, 0, 9), -109, 0);
        });
        t.test(2, "-100 less it: it changes nothing", () -> {
            house("a bad text", Recipes.SOME, by(0, 0, 1, 9), -100, 0);
            house("a text that ends", Recipes.SOME, by(0, 0, 0, 9), -109, 0);
        });
    }

    private static void full() {
        t.test(2, "Terms 1: A HOUSE, 3 ever, numbered from 0 on as they come; FULL", () -> {
            house("a fourth one", Recipes.FULL, by(0, 0, 0, 10), FULL, 0);
            Counted x = new Counted();
            for (int h = 0; h < 3; h++) {
                t.due("a bad text", Due.build(x, "w1h1;"), -105);
                t.due("house " + h, Due.build(x, Due.all(4, 3, "mgo".charAt(h))), h);
                t.due("many(0)", x.many(0), h + 1);
            }
            t.due("a fourth one", Due.build(x, Due.all(1, 1, 'o')), FULL);
            t.due("a fifth one", x.house(3, 0, 0, 10), FULL);
            t.due("many(0)", x.many(0), 3);
            for (int h = 0; h < 3; h++) t.due("all alike of " + h, x.ofHouse(h, 4 + h), 43);
        });
        t.test(2, "a HOUSE is of its own: its SHEET may change behind it", () -> {
            Counted x = new Counted();
            t.due("house", Due.build(x, "w1h1;mgogm"), 0);
            x.put(3, 5, 'o');
            x.lose(3);
            t.due("side 0", x.ofSide(0, 0, 0), 0);
            t.due("mirrors", x.ofHouse(0, 4), 2);
        });
    }

    // ---- promise 3

    private static void ofHouse() {
        t.test(3, "4 MIRRORS, 5 GLASS, 6 OPEN ones: none, and all", () -> {
            for (int kind = 0; kind < 3; kind++) {
                for (int size = 0; size < 2; size++) {
                    Counted x = new Counted();
                    Due.build(x, Due.all(size == 0 ? 1 : 4, size == 0 ? 1 : 3, "mgo".charAt(kind)));
                    for (int what = 4; what <= 6; what++) {
                        t.due("what " + what, x.ofHouse(0, what), what == 4 + kind ? size == 0 ? 5 : 43 : 0);
                    }
                    t.due("what 7", x.ofHouse(0, 7), 0);
                }
            }
        });
        t.test(3, "7 SMEARED ones: none, and all", () -> {
            Counted x = new Counted();
            Due.build(x, Due.all(1, 1, 'g'));
            t.due("none", x.ofHouse(0, 7), 0);
            x.walker(1, 0, 0, 0);
            x.walker(1, 0, 1, 0);
            x.ticks(0, 1);
            t.due("two", x.ofHouse(0, 7), 2);
            x.ticks(0, 9);
            t.due("all", x.ofHouse(0, 7), 5);
            t.due("they are glass still", x.ofHouse(0, 5), 5);
        });
        t.test(3, "UNKNOWN: HOUSE", () -> {
            for (int h : new int[] {-1, 2, 3, LEAST, MOST}) ofHouse("of house " + h, h, 0, UNKNOWN);
            Counted x = Recipes.SOME.make();
            t.due("the last one", x.ofHouse(1, 0), 2);
            t.due("a third one there is", Recipes.FULL.make().ofHouse(2, 0), 1);
            t.refused("a fourth one", Recipes.FULL, y -> y.ofHouse(3, 0), UNKNOWN, Cases.STAYS);
        });
        t.test(3, "OUTSIDE: what is 0 .. 7", () -> {
            for (int what : new int[] {-1, 8, LEAST, MOST}) ofHouse("what " + what, 0, what, OUTSIDE);
            Counted x = Recipes.SOME.make();
            t.due("what 0", x.ofHouse(0, 0), 2);
            t.due("what 7", x.ofHouse(0, 7), 1);
        });
        t.test(3, "UNKNOWN; OUTSIDE: in this order", () -> ofHouse("both", 2, 8, UNKNOWN));
    }

    private static void ofHouse(String call, int h, int what, int want) {
        t.refused("ofHouse " + call, Recipes.SOME, x -> x.ofHouse(h, what), want, Cases.STAYS);
    }

    // ---- promise 4

    /** The sides in the order in which the document tells them: way, room of even number, the other one. */
    private static int[][] sidesOf(int w, int h) {
        int[][] sides = new int[3 * w * h + w + h][];
        int k = 0;
        for (int y = 0; y < h; y++) {
            for (int x = 0; x < w; x++) {
                int c = w * y + x;
                sides[k++] = new int[] {2, 2 * c, 2 * c + 1};
                sides[k++] = new int[] {1, 2 * c, x == 0 ? NONE : 2 * (w * y + x - 1) + 1};
                sides[k++] = new int[] {0, 2 * c, y == 0 ? NONE : 2 * (w * (y - 1) + x) + 1};
            }
        }
        for (int y = 0; y < h; y++) sides[k++] = new int[] {1, NONE, 2 * (w * y + w - 1) + 1};
        for (int x = 0; x < w; x++) sides[k++] = new int[] {0, NONE, 2 * (w * (h - 1) + x) + 1};
        return sides;
    }

    private static void ofSide() {
        t.test(4, "Terms 1: SIDES: 3 c, 3 c and 1, 3 c and 2; behind all these for each y, then for each x", () -> {
            for (int w = 1; w <= 4; w++) {
                for (int h = 1; h <= 3; h++) {
                    Counted x = new Counted();
                    Due.build(x, Due.all(w, h, 'm'));
                    int[][] sides = sidesOf(w, h);
                    for (int k = 0; k < sides.length; k++) {
                        String side = "side " + k + " of " + w + " by " + h + ": ";
                        t.due(side + "way", x.ofSide(0, k, 1), sides[k][0]);
                        t.due(side + "even", x.ofSide(0, k, 2), sides[k][1]);
                        t.due(side + "other", x.ofSide(0, k, 3), sides[k][2]);
                    }
                    t.due("none behind", x.ofSide(0, sides.length, 1), UNKNOWN);
                }
            }
        });
        t.test(4, "2 the ROOM of even number by it (NONE), 3 the other one (NONE): BORDERS at x 0, y 0 and behind", () -> {
            Counted x = new Counted();
            Due.build(x, Due.all(2, 2, 'm'));
            int[][] want = {{1, 0, NONE}, {2, 0, NONE}, {5, 2, NONE}, {7, 4, NONE}, {12, NONE, 3}, {13, NONE, 7}, {14, NONE, 5}, {15, NONE, 7}};
            for (int[] border : want) {
                t.due("even by " + border[0], x.ofSide(0, border[0], 2), border[1]);
                t.due("other by " + border[0], x.ofSide(0, border[0], 3), border[2]);
            }
            t.due("no border: even", x.ofSide(0, 4, 2), 2);
            t.due("no border: other", x.ofSide(0, 4, 3), 1);
        });
        t.test(4, "4 1, if it is SMEARED: else 0, of MIRRORS and OPEN ones, too", () -> {
            Counted x = new Counted();
            Due.build(x, "w1h1;mgogo");
            for (int k = 0; k < 5; k++) t.due("side " + k, x.ofSide(0, k, 4), 0);
            x.walker(1, 0, 0, 0);
            x.ticks(0, 1);
            for (int k = 0; k < 5; k++) t.due("side " + k, x.ofSide(0, k, 4), k == 1 ? 1 : 0);
        });
        t.test(4, "UNKNOWN: HOUSE, SIDE", () -> {
            for (int h : new int[] {-1, 2, LEAST, MOST}) ofSide("of house " + h, h, 0, 0, UNKNOWN);
            for (int k : new int[] {-1, 9, 43, LEAST, MOST}) ofSide("of side " + k, 0, k, 0, UNKNOWN);
            t.due("the last side", Recipes.SOME.make().ofSide(1, 8, 1), 0);
            Counted x = new Counted();
            Due.build(x, Due.all(4, 3, 'o'));
            Due.build(x, Due.all(1, 1, 'o'));
            t.due("side 42 of the widest", x.ofSide(0, 42, 0), 2);
            t.due("side 43 of the widest", x.ofSide(0, 43, 0), UNKNOWN);
            t.due("side 4 of the least", x.ofSide(1, 4, 0), 2);
            t.due("side 5 of the least", x.ofSide(1, 5, 0), UNKNOWN);
        });
        t.test(4, "OUTSIDE: what is 0 .. 4", () -> {
            for (int what : new int[] {-1, 5, LEAST, MOST}) ofSide("what " + what, 0, 0, what, OUTSIDE);
            t.due("what 0", Recipes.SOME.make().ofSide(0, 0, 0), 2);
            t.due("what 4", Recipes.SOME.make().ofSide(0, 1, 4), 1);
        });
        t.test(4, "UNKNOWN; OUTSIDE: in this order", () -> {
            ofSide("house and what", 2, 0, 5, UNKNOWN);
            ofSide("side and what", 0, 9, 5, UNKNOWN);
        });
    }

    private static void ofSide(String call, int h, int k, int what, int want) {
        t.refused("ofSide " + call, Recipes.SOME, x -> x.ofSide(h, k, what), want, Cases.STAYS);
    }

    // ---- promise 5

    private static void side() {
        t.test(5, "Which SIDE of a ROOM is of a WAY: all of all sizes", () -> {
            for (int w = 1; w <= 4; w++) {
                for (int h = 1; h <= 3; h++) {
                    Counted x = new Counted();
                    Due.build(x, Due.all(w, h, 'm'));
                    int[][] sides = sidesOf(w, h);
                    for (int k = 0; k < sides.length; k++) {
                        for (int by = 1; by <= 2; by++) {
                            int room = sides[k][by];
                            if (room != NONE) t.due("of room " + room, x.side(0, room, sides[k][0]), k);
                        }
                    }
                }
            }
        });
        t.test(5, "UNKNOWN: HOUSE, ROOM", () -> {
            for (int h : new int[] {-1, 2, LEAST, MOST}) side("of house " + h, h, 0, 0, UNKNOWN);
            for (int room : new int[] {-1, 4, 24, LEAST, MOST}) side("of room " + room, 0, room, 0, UNKNOWN);
            t.due("the last room", Recipes.SOME.make().side(0, 3, 0), 8);
            Counted x = new Counted();
            Due.build(x, Due.all(4, 3, 'o'));
            t.due("room 23", x.side(0, 23, 1), 38);
            t.due("room 24", x.side(0, 24, 1), UNKNOWN);
        });
        t.test(5, "OUTSIDE: way is 0 .. 2", () -> {
            for (int way : new int[] {-1, 3, LEAST, MOST}) side("way " + way, 0, 0, way, OUTSIDE);
            t.due("way 0", Recipes.SOME.make().side(0, 0, 0), 2);
            t.due("way 2", Recipes.SOME.make().side(0, 0, 2), 0);
        });
        t.test(5, "UNKNOWN; OUTSIDE: in this order", () -> {
            side("house and way", 2, 0, 3, UNKNOWN);
            side("room and way", 0, 4, 3, UNKNOWN);
        });
    }

    private static void side(String call, int h, int room, int way, int want) {
        t.refused("side " + call, Recipes.SOME, x -> x.side(h, room, way), want, Cases.STAYS);
    }

    // ---- promise 6

    private static void pane() {
        t.test(6, "A SIDE becomes v (0 .. 2): what it was: each by each", () -> {
            Counted x = new Counted();
            Due.build(x, Due.all(1, 1, 'm'));
            int was = 0;
            for (int v : new int[] {0, 1, 1, 2, 2, 0, 2, 1, 0}) {
                t.due("to " + v, x.pane(0, 4, v), was);
                t.due("is", x.ofSide(0, 4, 0), v);
                t.due("others are mirrors", x.ofHouse(0, 4), v == 0 ? 5 : 4);
                was = v;
            }
        });
        t.test(6, "not SMEARED then, if it was another one", () -> {
            for (int v : new int[] {0, 2}) {
                Counted x = smeared();
                t.due("becomes " + v, x.pane(0, 0, v), 1);
                t.due("smeared", x.ofSide(0, 0, 4), 0);
                t.due("the other is smeared still", x.ofSide(0, 1, 4), 1);
                t.due("smeared ones", x.ofHouse(0, 7), 1);
                t.due("becomes glass", x.pane(0, 0, 1), v);
                t.due("smeared", x.ofSide(0, 0, 4), 0);
            }
        });
        t.test(6, "not SMEARED then, if it was another one: GLASS that becomes GLASS is as it was", () -> {
            Counted x = smeared();
            t.due("becomes glass", x.pane(0, 0, 1), 1);
            t.due("smeared", x.ofSide(0, 0, 4), 1);
            t.due("smeared ones", x.ofHouse(0, 7), 2);
            Counted y = new Counted();
            Due.build(y, Due.all(1, 1, 'g'));
            t.due("becomes glass", y.pane(0, 0, 1), 1);
            t.due("smeared", y.ofSide(0, 0, 4), 0);
        });
        t.test(6, "UNKNOWN: HOUSE, SIDE", () -> {
            for (int h : new int[] {-1, 2, LEAST, MOST}) pane("of house " + h, h, 0, 1, UNKNOWN);
            for (int k : new int[] {-1, 9, 43, LEAST, MOST}) pane("of side " + k, 0, k, 1, UNKNOWN);
            Counted x = Recipes.SOME.make();
            t.due("the first side", x.pane(0, 0, 2), 2);
            t.due("the last side", x.pane(1, 8, 2), 2);
            Counted y = new Counted();
            Due.build(y, Due.all(4, 3, 'o'));
            t.due("side 42", y.pane(0, 42, 0), 2);
            t.due("side 43", y.pane(0, 43, 0), UNKNOWN);
        });
        t.test(6, "OUTSIDE: v is 0 .. 2", () -> {
            for (int v : new int[] {-1, 3, LEAST, MOST}) pane("v " + v, 0, 1, v, OUTSIDE);
        });
        t.test(6, "UNKNOWN; OUTSIDE: in this order", () -> {
            pane("house and v", 2, 0, 3, UNKNOWN);
            pane("side and v", 0, 9, 3, UNKNOWN);
        });
    }

    /** A house of which sides 0, 1 are smeared glass. */
    private static Counted smeared() {
        Counted x = new Counted();
        Due.build(x, "w1h1;ggmmm");
        x.walker(1, 0, 0, 0);
        x.ticks(0, 2);
        t.due("smeared ones", x.ofHouse(0, 7), 2);
        return x;
    }

    private static void pane(String call, int h, int k, int v, int want) {
        t.refused("pane " + call, Recipes.SOME, x -> x.pane(h, k, v), want, Cases.STAYS);
    }
}
