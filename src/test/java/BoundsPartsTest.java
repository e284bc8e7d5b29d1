/** The boundary cases of promises 29 to 34 and of Terms 5 (TELLING), each in a test of its own. */
public final class BoundsPartsTest {
    private static final int UNKNOWN = -1, OUTSIDE = -2;
    private static final int LEAST = Integer.MIN_VALUE, MOST = Integer.MAX_VALUE;
    private static final Cases t = new Cases();

    public static void main(String[] args) {
        tell();
        greet();
        as();
        trace();
        fault();
        faultStays();
        many();
        t.end(29, 34);
    }

    /** Walkers 0 .. 7 of kinds 0, 1, 2, 0 .. that went to and fro for so many ticks. */
    private static Counted walked(int ticks) {
        Counted x = new Counted();
        Due.build(x, "w1h1;ommmm");
        for (int w = 0; w < 8; w++) x.walker(w % 3, 0, w % 2, 2);
        x.ticks(0, ticks);
        return x;
    }

    private static int traceOf(int... bodies) {
        int trace = 0;
        for (int body : bodies) trace = 31 * trace + body;
        return trace;
    }

    // ---- promises 29, 30

    private static void tell() {
        t.test(29, "BLIND (1): how many TICKS it went: 0, 1, 200", () -> {
            for (int n : new int[] {0, 1, 200}) {
                Counted x = walked(n);
                t.due("tell", x.tell(0), n);
                t.due("trace", x.trace(), traceOf(1));
                t.due("of the next one", x.tell(6), n);
                t.due("trace", x.trace(), traceOf(1, 1));
            }
        });
        t.test(29, "SEER (2): what BLIND's gives, and 100", () -> {
            for (int n : new int[] {0, 1, 200}) {
                Counted x = walked(n);
                t.due("tell", x.tell(1), n + 100);
                t.due("trace: the SEER's begins ahead of BLIND's", x.trace(), traceOf(2, 1));
            }
        });
        t.test(29, "WARY (3): what SEER's gives, and what BLIND's gives (SEER's left out)", () -> {
            for (int n : new int[] {0, 1, 200}) {
                Counted x = walked(n);
                t.due("tell", x.tell(2), 2 * n + 100);
                t.due("trace: 3, then 2 and its 1, then 1", x.trace(), traceOf(3, 2, 1, 1));
            }
        });
        t.test(29, "TICKS it went: not those in which it ran or stayed; of one that is OUT, too", () -> {
            Counted x = new Counted();
            Due.build(x, "w1h1;mgmmm");
            for (int kind = 0; kind < 3; kind++) x.walker(kind, 0, 0, 0);
            x.ticks(0, 9);
            t.due("blind", x.tell(0), 0);
            t.due("seer", x.tell(1), 100);
            t.due("wary", x.tell(2), 100);
            x.pane(0, 1, 2);
            t.due("all out", x.ticks(0, 9), 0);
            t.due("blind", x.tell(0), 1);
            t.due("seer", x.tell(1), 101);
            t.due("wary", x.tell(2), 102);
        });
        t.test(29, "UNKNOWN: it leaves no number in TRACE", () -> {
            for (int w : new int[] {-1, 4, 8, LEAST, MOST}) t.refused("tell " + w, Recipes.SOME, x -> x.tell(w), UNKNOWN, Cases.STAYS);
            t.refused("tell 0", Recipes.NEW, x -> x.tell(0), UNKNOWN, Cases.STAYS);
            t.refused("tell 8", Recipes.FULL, x -> x.tell(8), UNKNOWN, Cases.STAYS);
            t.due("the last one", walked(3).tell(7), 103);
        });
    }

    private static void greet() {
        t.test(30, "GREETED by a lent body (4): the own number of the one that is told, its place in its list", () -> {
            for (int w : new int[] {0, 1, 3, 4, 6, 7}) {
                Counted x = walked(2);
                t.due("greet " + w, x.greet(w), w);
                t.due("trace", x.trace(), traceOf(4));
            }
        });
        t.test(30, "its place in its list: of all WALKERS, not of those of its HOUSE or kind, or that are in", () -> {
            Counted x = new Counted();
            Due.build(x, Due.all(1, 1, 'o'));
            Due.build(x, Due.all(1, 1, 'm'));
            x.walker(0, 0, 0, 0);
            x.walker(1, 1, 0, 0);
            x.walker(0, 1, 0, 0);
            x.ticks(0, 5);
            t.due("the one out", x.greet(0), 0);
            t.due("the first of its house", x.greet(1), 1);
            t.due("the second of its kind", x.greet(2), 2);
        });
        t.test(30, "WARY ones have their own (5): 70", () -> {
            for (int w : new int[] {2, 5}) {
                Counted x = walked(2);
                t.due("greet " + w, x.greet(w), 70);
                t.due("trace", x.trace(), traceOf(5));
            }
        });
        t.test(30, "UNKNOWN: it leaves no number in TRACE", () -> {
            for (int w : new int[] {-1, 4, 8, LEAST, MOST}) t.refused("greet " + w, Recipes.SOME, x -> x.greet(w), UNKNOWN, Cases.STAYS);
            t.refused("greet 0", Recipes.NEW, x -> x.greet(0), UNKNOWN, Cases.STAYS);
            t.refused("greet 8", Recipes.FULL, x -> x.greet(8), UNKNOWN, Cases.STAYS);
        });
    }

    // ---- promise 31

    private static void refusedAs(String call, Cases.Recipe recipe, int w, int kind, int want, int fault) {
        t.refused("as " + call, recipe, x -> x.as(w, kind), want, fault);
    }

    private static void as() {
        t.test(31, "1; CAST: it is none (each is a BLIND one, too; a WARY one is a SEER): each as each", () -> {
            for (int w = 0; w < 8; w++) {
                for (int kind = 0; kind < 3; kind++) {
                    Counted x = walked(1);
                    boolean is = kind <= w % 3;
                    t.due(w % 3 + " as " + kind, x.as(w, kind), is ? 1 : -12);
                    t.due("fault()", x.fault(), is ? 0 : 2);
                    t.due("it is as it was", x.ofWalker(w, 0), w % 3);
                    t.due("trace", x.trace(), 0);
                }
            }
        });
        t.test(31, "CAST: it changes nothing", () -> {
            refusedAs("a blind one as a seer", Recipes.SOME, 0, 1, -12, 2);
            refusedAs("a blind one as a wary one", Recipes.SOME, 0, 2, -12, 2);
            refusedAs("a seer as a wary one", Recipes.SOME, 1, 2, -12, 2);
            refusedAs("a wary one as a seer", Recipes.SOME, 2, 1, 1, 0);
        });
        t.test(31, "UNKNOWN: WALKER", () -> {
            for (int w : new int[] {-1, 4, 8, LEAST, MOST}) refusedAs("of " + w, Recipes.SOME, w, 0, UNKNOWN, 0);
            refusedAs("of 0", Recipes.NEW, 0, 0, UNKNOWN, 0);
            refusedAs("of 8", Recipes.FULL, 8, 0, UNKNOWN, 0);
        });
        t.test(31, "OUTSIDE: kind (0 .. 2)", () -> {
            for (int kind : new int[] {-1, 3, LEAST, MOST}) {
                for (int w = 0; w < 3; w++) refusedAs("kind " + kind, Recipes.SOME, w, kind, OUTSIDE, 0);
            }
        });
        t.test(31, "UNKNOWN; OUTSIDE; CAST: in this order", () -> {
            refusedAs("walker and kind", Recipes.SOME, 4, 3, UNKNOWN, 0);
            refusedAs("walker and kind", Recipes.SOME, -1, -1, UNKNOWN, 0);
            refusedAs("kind and cast", Recipes.SOME, 0, 3, OUTSIDE, 0);
        });
    }

    // ---- promise 32

    private static void trace() {
        t.test(32, "TRACE (an int that wraps, 0 at first, becomes 31 times it and the number)", () -> {
            Counted x = walked(0);
            t.due("at first", x.trace(), 0);
            int[] wants = {4, 128, 3972, 123136, 3817220, 118333824, -626618748, 2049655296};
            for (int want : wants) {
                x.greet(0);
                t.due("trace()", x.trace(), want);
                t.due("it stays", x.trace(), want);
            }
        });
        t.test(32, "an int that wraps: many times, by all bodies", () -> {
            Counted x = walked(1);
            java.math.BigInteger whole = java.math.BigInteger.ZERO;
            int[][] bodies = {{1}, {2, 1}, {3, 2, 1, 1}};
            for (int k = 0; k < 60; k++) {
                x.tell(k % 8);
                for (int body : bodies[k % 8 % 3]) {
                    whole = whole.multiply(java.math.BigInteger.valueOf(31)).add(java.math.BigInteger.valueOf(body));
                }
                t.due("trace()", x.trace(), whole.intValue());
            }
        });
        t.test(32, "TRACE: by TELLING and GREETING alone", () -> {
            Counted x = walked(1);
            x.tell(0);
            x.as(2, 2);
            x.ofWalker(0, 4);
            x.ticks(0, 3);
            x.walker(0, 0, 0, 0);
            x.keeps(0, 0, 0, 0, 0, 0, 1, 0);
            t.due("trace()", x.trace(), 1);
        });
    }

    // ---- promise 33

    /** What fault() tells behind a call, be there a fault ahead of it or none. */
    private static void behind(String call, Cases.Recipe recipe, int fault, Cases.Call c) {
        for (int ahead : new int[] {0, 4}) {
            Counted x = recipe.make();
            x.sheet(ahead == 4 ? 0 : 4, 0, -1);
            t.due("ahead of " + call, x.fault(), ahead);
            c.on(x);
            t.due("behind " + call, x.fault(), fault == Cases.STAYS ? ahead : fault);
            t.due("and again", x.fault(), fault == Cases.STAYS ? ahead : fault);
        }
    }

    private static void some(String call, int fault, Cases.Call c) {
        behind(call, Recipes.SOME, fault, c);
    }

    private static void fault() {
        t.test(33, "(0 ahead of any)", () -> {
            t.due("new", Recipes.NEW.make().fault(), 0);
            Counted x = new Counted();
            x.lose(0);
            x.trace();
            x.many(9);
            t.due("behind calls that name none", x.fault(), 0);
        });
        t.test(33, "The FAULT of the latest call that names one: 1 NULL", () -> {
            some("house", 1, x -> x.house(3, 0, 0, 1));
            some("photograph", 1, x -> x.photograph(3, 0, 0, 5));
            some("keeps", 1, x -> x.keeps(0, 0, 0, 3, 0, 0, 1, 0));
            some("put", 1, x -> x.put(3, 0, 0));
            some("cell", 1, x -> x.cell(3, 0, 0));
            some("copy", 1, x -> x.copy(3, 0, 0, 0, 1));
            some("copy to nothing", 1, x -> x.copy(0, 0, 3, 0, 1));
        });
        t.test(33, "The FAULT of the latest call that names one: 2 CAST", () -> {
            some("house", 2, x -> x.house(0, 1, 0, 1));
            some("photograph", 2, x -> x.photograph(0, 1, 0, 5));
            some("keeps", 2, x -> x.keeps(0, 0, 0, 0, 1, 0, 1, 0));
            some("cell", 2, x -> x.cell(0, 0, 1));
            some("copy", 2, x -> x.copy(0, 0, 1, 0, 1));
            some("as", 2, x -> x.as(0, 1));
        });
        t.test(33, "The FAULT of the latest call that names one: 3 INDEX", () -> {
            some("house", 3, x -> x.house(0, 0, 0, 11));
            some("photograph", 3, x -> x.photograph(1, 2, 6, 5));
            some("keeps", 3, x -> x.keeps(0, 0, 0, 1, 2, 10, 1, 0));
            some("put", 3, x -> x.put(0, 10, 0));
            some("cell", 3, x -> x.cell(0, 10, 0));
            some("copy", 3, x -> x.copy(0, 0, 0, 0, 11));
        });
        t.test(33, "The FAULT of the latest call that names one: 4 SIZE", () -> {
            some("house", 4, x -> x.house(0, 0, 0, -1));
            some("photograph", 4, x -> x.photograph(1, 2, 0, -5));
            some("keeps", 4, x -> x.keeps(0, 0, 0, 1, 2, 0, -1, 0));
            some("sheet", 4, x -> x.sheet(1, 0, -1));
        });
        t.test(33, "0: it came to none: it is done", () -> {
            some("house", 0, x -> x.house(0, 0, 0, 10));
            some("house by a bad text", 0, x -> x.house(0, 0, 1, 9));
            some("photograph", 0, x -> x.photograph(1, 2, 0, 5));
            some("keeps", 0, x -> x.keeps(0, 0, 0, 1, 2, 1, 2, 0));
            some("sheet", 0, x -> x.sheet(1, 0, 5));
            some("put", 0, x -> x.put(0, 0, 5));
            some("cell", 0, x -> x.cell(0, 0, 0));
            some("copy", 0, x -> x.copy(0, 0, 0, 1, 5));
            some("copy of none", 0, x -> x.copy(0, 0, 0, 1, 0));
            some("as", 0, x -> x.as(2, 1));
        });
        t.test(33, "0: or was refused", () -> {
            some("house UNKNOWN", 0, x -> x.house(4, 0, 0, 10));
            some("house OUTSIDE", 0, x -> x.house(0, 3, 0, 10));
            behind("house FULL", Recipes.FULL, 0, x -> x.house(0, 0, 0, 10));
            some("photograph UNKNOWN", 0, x -> x.photograph(4, 0, 0, 5));
            some("photograph OUTSIDE: sort", 0, x -> x.photograph(1, 3, 0, 5));
            some("photograph OUTSIDE: n", 0, x -> x.photograph(1, 2, 0, 6));
            some("keeps UNKNOWN", 0, x -> x.keeps(2, 0, 0, 1, 2, 1, 2, 0));
            some("keeps OUTSIDE: way", 0, x -> x.keeps(0, 0, 3, 1, 2, 1, 2, 0));
            some("keeps OUTSIDE: n", 0, x -> x.keeps(0, 0, 0, 1, 2, 1, 0, 0));
            some("keeps UNKNOWN: a SIDE", 0, x -> x.keeps(0, 0, 0, 1, 2, 0, 1, 0));
            some("keeps OUTSIDE: twice", 0, x -> x.keeps(0, 0, 0, 1, 2, 2, 2, 0));
            some("sheet UNKNOWN", 0, x -> x.sheet(4, 0, 1));
            some("sheet OUTSIDE", 0, x -> x.sheet(0, 0, 61));
            some("put UNKNOWN", 0, x -> x.put(4, 0, 0));
            some("cell UNKNOWN", 0, x -> x.cell(4, 0, 0));
            some("cell OUTSIDE", 0, x -> x.cell(0, 0, 3));
            some("copy UNKNOWN", 0, x -> x.copy(0, 0, 4, 0, 1));
            some("as UNKNOWN", 0, x -> x.as(9, 0));
            some("as OUTSIDE", 0, x -> x.as(0, 3));
        });
    }

    private static void faultStays() {
        t.test(33, "of the latest call that names one: others leave it as it is, as they are done", () -> {
            some("ofHouse", Cases.STAYS, x -> x.ofHouse(0, 0));
            some("ofSide", Cases.STAYS, x -> x.ofSide(0, 0, 0));
            some("side", Cases.STAYS, x -> x.side(0, 0, 0));
            some("pane", Cases.STAYS, x -> x.pane(0, 0, 1));
            some("seen", Cases.STAYS, x -> x.seen(0, 0, 1, 0, 1, 0));
            some("met", Cases.STAYS, x -> x.met(0, 0, 1, 0, 0));
            some("image", Cases.STAYS, x -> x.image(0, 0, 1, 1));
            some("images", Cases.STAYS, x -> x.images(0, 0, 1, 1, 0));
            some("report", Cases.STAYS, x -> x.report(0, 0, 1, 1, true));
            some("spots", Cases.STAYS, x -> x.spots(0));
            some("taken", Cases.STAYS, x -> x.taken(0));
            some("walker", Cases.STAYS, x -> x.walker(0, 0, 0, 0));
            some("ticks", Cases.STAYS, x -> x.ticks(0, 5));
            some("ofWalker", Cases.STAYS, x -> x.ofWalker(0, 0));
            some("shut", Cases.STAYS, x -> x.shut(0));
            some("far", Cases.STAYS, x -> x.far(0, 0));
            some("opened", Cases.STAYS, x -> x.opened(0, 1, -1));
            some("changed", Cases.STAYS, x -> x.changed(0, 1));
            some("change", Cases.STAYS, x -> x.change(0, 1, 0));
            some("lose", Cases.STAYS, x -> x.lose(1));
            some("lose nothing", Cases.STAYS, x -> x.lose(3));
            some("tell", Cases.STAYS, x -> x.tell(0));
            some("greet", Cases.STAYS, x -> x.greet(0));
            some("trace", Cases.STAYS, x -> x.trace());
            some("many", Cases.STAYS, x -> x.many(0));
        });
        t.test(33, "of the latest call that names one: others leave it as it is, as they are refused", () -> {
            some("ofHouse", Cases.STAYS, x -> x.ofHouse(9, 0));
            some("ofSide", Cases.STAYS, x -> x.ofSide(0, 0, 9));
            some("side", Cases.STAYS, x -> x.side(0, 9, 0));
            some("pane", Cases.STAYS, x -> x.pane(0, 0, 9));
            some("seen", Cases.STAYS, x -> x.seen(0, 0, 0, 0, 1, 0));
            some("met", Cases.STAYS, x -> x.met(0, 0, 0, 0, 0));
            some("image", Cases.STAYS, x -> x.image(0, 0, 0, 0));
            some("images", Cases.STAYS, x -> x.images(0, 0, 1, 0, 0));
            some("report", Cases.STAYS, x -> x.report(0, 0, 0, 0, true));
            some("spots", Cases.STAYS, x -> x.spots(9));
            some("taken", Cases.STAYS, x -> x.taken(9));
            some("walker", Cases.STAYS, x -> x.walker(9, 0, 0, 0));
            some("ticks", Cases.STAYS, x -> x.ticks(0, -1));
            some("ofWalker", Cases.STAYS, x -> x.ofWalker(9, 0));
            some("shut", Cases.STAYS, x -> x.shut(9));
            some("far", Cases.STAYS, x -> x.far(9, 0));
            some("opened", Cases.STAYS, x -> x.opened(0, 0, -1));
            some("changed", Cases.STAYS, x -> x.changed(0, 0));
            some("change", Cases.STAYS, x -> x.change(0, 0, 0));
            some("lose", Cases.STAYS, x -> x.lose(4));
            some("tell", Cases.STAYS, x -> x.tell(9));
            some("greet", Cases.STAYS, x -> x.greet(9));
            some("many", Cases.STAYS, x -> x.many(9));
            behind("report FULL", Recipes.FULL, Cases.STAYS, x -> x.report(0, 0, 1, 1, true));
            behind("walker FULL", Recipes.FULL, Cases.STAYS, x -> x.walker(0, 0, 0, 0));
        });
    }

    // ---- promise 34

    private static void many(Counted x, int... wants) {
        for (int what = 0; what < 5; what++) t.due("many(" + what + ")", x.many(what), wants[what]);
    }

    private static void many() {
        t.test(34, "How many: nothing, and as much as there may be, of each thing", () -> {
            many(Recipes.NEW.make(), 0, 0, 0, 0, 0);
            many(Recipes.SOME.make(), 2, 2, 2, 4, 1);
            many(Recipes.FULL.make(), 3, 12, 6, 8, 4);
            Counted x = Recipes.FULL.make();
            x.house(0, 0, 0, 10);
            x.report(0, 0, 1, 1, true);
            x.photograph(1, 2, 0, 40);
            x.walker(0, 0, 0, 0);
            many(x, 3, 12, 6, 8, 4);
        });
        t.test(34, "4 of these OUT: none, all 8 of all HOUSES", () -> {
            Counted x = new Counted();
            Due.build(x, Due.all(1, 1, 'o'));
            Due.build(x, Due.all(1, 1, 'o'));
            for (int w = 0; w < 8; w++) x.walker(w % 3, w % 2, 0, 0);
            many(x, 2, 0, 0, 8, 0);
            x.ticks(0, 1);
            many(x, 2, 0, 0, 8, 4);
            x.ticks(1, 1);
            many(x, 2, 0, 0, 8, 8);
        });
        t.test(34, "2 rows of THE PHOTOGRAPH: 0, 1, 6, and fewer again", () -> {
            Counted x = new Counted();
            t.due("none", x.many(2), 0);
            x.sheet(0, 2, 30);
            for (int i = 0; i < 30; i += 5) x.put(0, i, 1);
            for (int n : new int[] {5, 30, 10}) {
                x.photograph(0, 2, 0, n);
                t.due("of " + n, x.many(2), n / 5);
            }
        });
        t.test(34, "OUTSIDE: what is 0 .. 4", () -> {
            for (int what : new int[] {-1, 5, LEAST, MOST}) {
                t.refused("many " + what, Recipes.SOME, x -> x.many(what), OUTSIDE, Cases.STAYS);
                t.refused("many " + what, Recipes.NEW, x -> x.many(what), OUTSIDE, Cases.STAYS);
            }
        });
        t.test(34, "The public face: UNKNOWN -1, OUTSIDE -2, STATE -3, FULL -4, NONE -9, LOST the least long", () -> {
            t.due("UNKNOWN", MirrorHouse.UNKNOWN, -1);
            t.due("OUTSIDE", MirrorHouse.OUTSIDE, -2);
            t.due("STATE", MirrorHouse.STATE, -3);
            t.due("FULL", MirrorHouse.FULL, -4);
            t.due("NONE", MirrorHouse.NONE, -9);
            t.due("LOST", MirrorHouse.LOST, Long.MIN_VALUE);
        });
    }
}
