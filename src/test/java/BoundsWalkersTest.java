/** The boundary cases of promises 15 to 17 and of Terms 3, each in a test of its own. */
public final class BoundsWalkersTest {
    private static final int UNKNOWN = -1, OUTSIDE = -2, FULL = -4, NONE = -9;
    private static final int LEAST = Integer.MIN_VALUE, MOST = Integer.MAX_VALUE;
    private static final int BLIND = 0, SEER = 1, WARY = 2;
    private static final Cases t = new Cases();

    public static void main(String[] args) {
        newWalkers();
        refusalsOfWalker();
        hands();
        whatIsTaken();
        wary();
        numbers();
        howManyTicks();
        ofWalker();
        t.end(15, 17);
    }

    private static Counted of(String text) {
        Counted x = new Counted();
        t.due("house " + text, Due.build(x, text), 0);
        return x;
    }

    private static void is(Counted x, int w, int room, int came, int went, int ran, int out) {
        String walker = "walker " + w + ": ";
        t.due(walker + "room", x.ofWalker(w, 2), room);
        t.due(walker + "came", x.ofWalker(w, 3), came);
        t.due(walker + "went", x.ofWalker(w, 4), went);
        t.due(walker + "ran", x.ofWalker(w, 5), ran);
        t.due(walker + "out", x.ofWalker(w, 6), out);
    }

    // ---- promise 15

    private static void newWalkers() {
        t.test(15, "Terms 3: WALKERS, 8 ever, numbered from 0 on as they come; FULL", () -> {
            Counted x = of(Due.all(1, 1, 'm'));
            for (int w = 0; w < 8; w++) {
                t.due("walker " + w, x.walker(w % 3, 0, w % 2, w % 3), w);
                t.due("many(3)", x.many(3), w + 1);
            }
            t.due("a ninth", x.walker(0, 0, 0, 0), FULL);
            t.due("a tenth", x.walker(1, 0, 1, 1), FULL);
            t.due("many(3)", x.many(3), 8);
            for (int w = 0; w < 8; w++) is(x, w, w % 2, w % 3, 0, 0, NONE);
        });
        t.test(15, "WALKERS, 8 ever: of all HOUSES together, those that are OUT, too", () -> {
            for (int h = 0; h < 3; h++) {
                int house = h;
                t.refused("walker in house " + h, Recipes.FULL, x -> x.walker(0, house, 0, 0), FULL, Cases.STAYS);
            }
            Counted x = of(Due.all(1, 1, 'o'));
            for (int w = 0; w < 8; w++) x.walker(0, 0, 0, 0);
            t.due("all out", x.ticks(0, 9), 0);
            t.due("a ninth", x.walker(0, 0, 0, 0), FULL);
        });
        t.test(15, "each in a ROOM, CAME by a WAY (0 .. 2), of a kind (0 .. 2): each of them", () -> {
            for (int kind = 0; kind < 3; kind++) {
                Counted x = of(Due.all(4, 3, 'm'));
                for (int way = 0; way < 3; way++) {
                    t.due("a walker", x.walker(kind, 0, 23, way), 2 * way);
                    t.due("a walker", x.walker(kind, 0, 0, way), 2 * way + 1);
                    t.due("kind", x.ofWalker(2 * way, 0), kind);
                    t.due("house", x.ofWalker(2 * way, 1), 0);
                    is(x, 2 * way, 23, way, 0, 0, NONE);
                    is(x, 2 * way + 1, 0, way, 0, 0, NONE);
                }
            }
        });
    }

    private static void walker(String call, int kind, int h, int room, int way, int want) {
        t.refused("walker " + call, Recipes.SOME, x -> x.walker(kind, h, room, way), want, Cases.STAYS);
    }

    private static void refusalsOfWalker() {
        t.test(15, "UNKNOWN: HOUSE, ROOM", () -> {
            for (int h : new int[] {-1, 2, 3, LEAST, MOST}) walker("in house " + h, 0, h, 0, 0, UNKNOWN);
            for (int room : new int[] {-1, 4, 24, LEAST, MOST}) walker("in room " + room, 0, 0, room, 0, UNKNOWN);
            t.due("the last house, the last room", Recipes.SOME.make().walker(0, 1, 3, 0), 4);
        });
        t.test(15, "OUTSIDE: kind (0 .. 2)", () -> {
            for (int kind : new int[] {-1, 3, LEAST, MOST}) walker("of kind " + kind, kind, 0, 0, 0, OUTSIDE);
        });
        t.test(15, "OUTSIDE: way (0 .. 2)", () -> {
            for (int way : new int[] {-1, 3, LEAST, MOST}) walker("that came by " + way, 0, 0, 0, way, OUTSIDE);
        });
        t.test(15, "UNKNOWN; OUTSIDE; FULL: in this order", () -> {
            walker("house and kind", 3, 2, 0, 0, UNKNOWN);
            walker("house and way", 0, 2, 0, 3, UNKNOWN);
            walker("room and kind", 3, 0, 4, 0, UNKNOWN);
            walker("room and way", 0, 0, 4, 3, UNKNOWN);
            t.refused("walker: house and full", Recipes.FULL, x -> x.walker(0, 3, 0, 0), UNKNOWN, Cases.STAYS);
            t.refused("walker: room and full", Recipes.FULL, x -> x.walker(0, 0, 2, 0), UNKNOWN, Cases.STAYS);
            t.refused("walker: kind and full", Recipes.FULL, x -> x.walker(3, 0, 0, 0), OUTSIDE, Cases.STAYS);
            t.refused("walker: way and full", Recipes.FULL, x -> x.walker(0, 0, 0, 3), OUTSIDE, Cases.STAYS);
        });
    }

    // ---- promise 16 and what is done in a tick

    private static void hands() {
        for (int kind = 0; kind < 3; kind++) {
            int of = kind;
            t.test(16, "Terms 3: in ROOMS of even number those of WAY d and 1, d and 2, d (what is left over by 3): kind " + of, () -> {
                for (int d = 0; d < 3; d++) hand(of, 0, d, (d + 1) % 3, (d + 2) % 3, d);
            });
            t.test(16, "Terms 3: in others d and 2, d and 1, d: kind " + of, () -> {
                for (int d = 0; d < 3; d++) hand(of, 1, d, (d + 2) % 3, (d + 1) % 3, d);
            });
        }
        t.test(16, "Terms 3: Who goes CAME by that WAY: the next TICK is looked at from there", () -> {
            // by 2 to room 1 (side 0), there by 1 (2 and 2) to room 2; there by 2 (1 and 1) to room 3
            Counted x = of(Due.with(Due.all(2, 1, 'm'), 'o', 0, 3, 4, 6, 7, 8));
            x.walker(BLIND, 0, 0, 0);
            x.ticks(0, 1);
            is(x, 0, 1, 2, 1, 0, NONE);
            x.ticks(0, 1);
            is(x, 0, 2, 1, 2, 0, NONE);
            x.ticks(0, 1);
            is(x, 0, 3, 2, 3, 0, NONE);
            x.ticks(0, 1);
            is(x, 0, NONE, 1, 4, 0, 4);
        });
    }

    /** Of a walker that came by d: the sides it takes, as more and more of those ahead are mirrors. */
    private static void hand(int kind, int room, int d, int... order) {
        for (int shut = 0; shut <= 3; shut++) {
            Counted x = of(Due.all(1, 1, 'o'));
            for (int k = 0; k < shut; k++) x.pane(0, x.side(0, room, order[k]), 0);
            x.walker(kind, 0, room, d);
            int left = x.ticks(0, 1);
            if (shut == 3) {
                t.due("stays", left, 1);
                is(x, 0, room, d, 0, 0, NONE);
                continue;
            }
            boolean in = order[shut] == 2;
            t.due("left", left, in ? 1 : 0);
            is(x, 0, in ? 1 - room : NONE, order[shut], 1, 0, in ? NONE : 1);
        }
    }

    private static void whatIsTaken() {
        t.test(16, "Terms 3: a BLIND one goes by the first SIDE that is OPEN: it takes no GLASS, SMEARED or not", () -> {
            Counted x = of(Due.all(1, 1, 'g'));
            x.walker(BLIND, 0, 0, 2);
            t.due("stays", x.ticks(0, 200), 1);
            is(x, 0, 0, 2, 0, 0, NONE);
            t.due("smeared", x.ofHouse(0, 7), 0);
            x.walker(SEER, 0, 0, 2);
            x.ticks(0, 3);
            t.due("smeared", x.ofHouse(0, 7), 3);
            is(x, 0, 0, 2, 0, 0, NONE);
            x.pane(0, 1, 2);
            t.due("by way 1, the second in its order", x.ticks(0, 1), 0);
        });
        t.test(16, "Terms 3: a SEER (a WARY one, too) takes the first that is OPEN, or GLASS that is not SMEARED", () -> {
            for (int kind = 1; kind < 3; kind++) {
                // from room 0, that came by 0: way 1 a mirror, way 2 glass, way 0 open
                Counted x = of("w1h1;gmomm");
                x.walker(kind, 0, 0, 0);
                x.ticks(0, 1);
                is(x, 0, 0, 0, 0, 1, NONE);
                t.due("smeared", x.ofSide(0, 0, 4), 1);
                x.ticks(0, 1);
                is(x, 0, NONE, 0, 1, 1, 2);
                // way 2 open ahead of way 0 of glass
                Counted y = of("w1h1;omgmm");
                y.walker(kind, 0, 0, 0);
                y.ticks(0, 1);
                is(y, 0, 1, 2, 1, 0, NONE);
                t.due("smeared", y.ofHouse(0, 7), 0);
            }
        });
        t.test(16, "Terms 3: if it is GLASS, it runs into it: it is SMEARED then, and the WALKER stays: each SIDE, each once", () -> {
            for (int kind = 1; kind < 3; kind++) {
                for (int room = 0; room < 2; room++) {
                    Counted x = of(Due.all(1, 1, 'g'));
                    x.walker(kind, 0, room, 1);
                    int[] order = room == 0 ? new int[] {2, 0, 1} : new int[] {0, 2, 1};
                    for (int k = 0; k < 3; k++) {
                        t.due("stays", x.ticks(0, 1), 1);
                        is(x, 0, room, 1, 0, k + 1, NONE);
                        t.due("smeared", x.ofSide(0, x.side(0, room, order[k]), 4), 1);
                        t.due("smeared ones", x.ofHouse(0, 7), k + 1);
                        t.due("glass still", x.ofHouse(0, 5), 5);
                    }
                    t.due("then none is left", x.ticks(0, 197), 1);
                    is(x, 0, room, 1, 0, 3, NONE);
                }
            }
        });
        t.test(16, "Terms 3: SMEARED GLASS is seen from both ROOMS by it", () -> {
            Counted x = of("w1h1;gmmmm");
            x.walker(SEER, 0, 0, 0);
            x.walker(SEER, 0, 1, 0);
            x.ticks(0, 5);
            is(x, 0, 0, 0, 0, 1, NONE);
            is(x, 1, 1, 0, 0, 0, NONE);
        });
        t.test(16, "Terms 3: GLASS that was SMEARED and became another one and GLASS again is run into again", () -> {
            Counted x = of("w1h1;gmmmm");
            x.walker(SEER, 0, 0, 0);
            x.ticks(0, 2);
            x.pane(0, 0, 1);
            x.ticks(0, 2);
            is(x, 0, 0, 0, 0, 1, NONE);
            x.pane(0, 0, 0);
            x.pane(0, 0, 1);
            x.ticks(0, 2);
            is(x, 0, 0, 0, 0, 2, NONE);
        });
        t.test(16, "Terms 3: by an OPEN BORDER it is OUT: each BORDER", () -> {
            int[][] borders = {{0, 1}, {0, 2}, {1, 3}, {1, 4}};
            for (int[] border : borders) {
                Counted x = of(Due.with(Due.all(1, 1, 'm'), 'o', border[1]));
                int way = x.ofSide(0, border[1], 1);
                for (int kind = 0; kind < 3; kind++) x.walker(kind, 0, border[0], way);
                t.due("none left", x.ticks(0, 1), 0);
                for (int w = 0; w < 3; w++) is(x, w, NONE, way, 1, 0, 1);
                t.due("many(4)", x.many(4), 3);
            }
        });
        t.test(16, "Terms 3: Who has none stays: shut in by MIRRORS", () -> {
            Counted x = of(Due.all(1, 1, 'm'));
            for (int kind = 0; kind < 3; kind++) x.walker(kind, 0, kind % 2, kind);
            t.due("all", x.ticks(0, 200), 3);
            for (int w = 0; w < 3; w++) is(x, w, w % 2, w, 0, 0, NONE);
        });
    }

    private static void wary() {
        t.test(16, "Terms 3: A WARY one at those first by which it went the fewest times", () -> {
            // to and fro by side 0 (two times), then side 2, glass, is looked at ahead of it, though last by its hand
            Counted x = of("w1h1;ommmm");
            x.walker(WARY, 0, 0, 0);
            x.walker(SEER, 0, 0, 0);
            x.ticks(0, 2);
            is(x, 0, 0, 2, 2, 0, NONE);
            x.pane(0, 2, 1);
            x.ticks(0, 1);
            is(x, 0, 0, 2, 2, 1, NONE);
            t.due("smeared", x.ofSide(0, 2, 4), 1);
            is(x, 1, 1, 2, 3, 0, NONE);
        });
        t.test(16, "Terms 3: or into which it ran, the fewest times", () -> {
            // ran into side 1 once: then side 2, by which it never went, is first, though side 1 is ahead by the hand
            Counted x = of("w1h1;mgmmm");
            x.walker(WARY, 0, 0, 0);
            x.ticks(0, 1);
            is(x, 0, 0, 0, 0, 1, NONE);
            x.pane(0, 1, 2);
            x.pane(0, 2, 2);
            x.ticks(0, 1);
            is(x, 0, NONE, 0, 1, 1, 2);
        });
        t.test(16, "Terms 3: (likewise then): of alike ones in the order of the hand", () -> {
            for (int d = 0; d < 3; d++) {
                Counted x = of(Due.all(1, 1, 'g'));
                x.walker(WARY, 0, 0, d);
                x.ticks(0, 3);
                is(x, 0, 0, d, 0, 3, NONE);
                for (int k = 0; k < 3; k++) x.pane(0, k, 2);
                x.ticks(0, 1);
                t.due("each once: by the hand", x.ofWalker(0, 3), (d + 1) % 3);
                Counted y = of(Due.all(1, 1, 'g'));
                y.walker(WARY, 0, 1, d);
                y.ticks(0, 3);
                for (int k : new int[] {0, 3, 4}) y.pane(0, k, 2);
                y.ticks(0, 1);
                t.due("each once: by the hand", y.ofWalker(0, 3), (d + 2) % 3);
            }
        });
        t.test(16, "Terms 3: the fewest of those that can be taken: a SIDE by which it never went, a MIRROR, is passed over", () -> {
            Counted x = of("w1h1;ommmm");
            x.walker(WARY, 0, 0, 0);
            t.due("to and fro", x.ticks(0, 200), 1);
            is(x, 0, 0, 2, 200, 0, NONE);
        });
        t.test(16, "Terms 3: fewest: the last in the order of the hand, if it is one less than both ahead", () -> {
            Counted x = of("w1h1;gggmm");
            x.walker(WARY, 0, 0, 0);
            x.ticks(0, 2);
            x.pane(0, 0, 0);
            x.pane(0, 1, 0);
            x.pane(0, 0, 1);
            x.pane(0, 1, 1);
            // ran into 1, 0 once; 2 never
            x.ticks(0, 1);
            t.due("side 2", x.ofSide(0, 2, 4), 1);
            x.pane(0, 2, 2);
            x.pane(0, 2, 1);
            x.ticks(0, 1);
            t.due("each once: side 1", x.ofSide(0, 1, 4), 1);
            x.ticks(0, 1);
            t.due("then side 0", x.ofSide(0, 0, 4), 1);
            is(x, 0, 0, 0, 0, 5, NONE);
        });
        t.test(16, "Terms 3: times of a SIDE are of each WARY one by itself, and of both ROOMS by it", () -> {
            Counted x = of("w1h1;ommmm");
            x.walker(WARY, 0, 0, 0);
            x.ticks(0, 1);
            x.walker(WARY, 0, 1, 2);
            // side 3 is glass: the first one, in room 1 by side 0, went by it once; the second one never
            x.pane(0, 3, 2);
            x.ticks(0, 1);
            is(x, 0, NONE, 1, 2, 0, 2);
            is(x, 1, NONE, 1, 1, 0, 1);
        });
        t.test(16, "Terms 3: times of a SIDE: by which it went from the other ROOM", () -> {
            // by side 0 to room 1, there into side 3: each once, so by the hand side 3, and not back by side 0
            Counted x = of("w1h1;ommgm");
            x.walker(WARY, 0, 0, 0);
            x.ticks(0, 2);
            is(x, 0, 1, 2, 1, 1, NONE);
            x.pane(0, 3, 2);
            x.ticks(0, 1);
            is(x, 0, NONE, 1, 2, 1, 3);
        });
        t.test(16, "Terms 3: times stay as a pane becomes another one", () -> {
            Counted x = of("w1h1;mgmmm");
            x.walker(WARY, 0, 0, 0);
            x.ticks(0, 1);
            x.pane(0, 1, 0);
            x.pane(0, 1, 1);
            x.pane(0, 0, 1);
            x.ticks(0, 1);
            t.due("side 0, never tried", x.ofSide(0, 0, 4), 1);
            t.due("not side 1, once tried", x.ofSide(0, 1, 4), 0);
        });
    }

    private static void numbers() {
        t.test(16, "Terms 3: by numbers: what the one smears, the next finds smeared in the same TICK", () -> {
            Counted x = of("w1h1;gmmmm");
            for (int w = 0; w < 8; w++) x.walker(1 + w % 2, 0, w % 2, 0);
            x.ticks(0, 1);
            for (int w = 0; w < 8; w++) is(x, w, w % 2, 0, 0, w == 0 ? 1 : 0, NONE);
        });
        t.test(16, "Terms 3: A TICK of all WALKERS, TICK by TICK: not all TICKS of the first ahead of the next", () -> {
            // 0 comes to side 3 by its second tick; 1, that is there, has run into it by its first
            Counted x = of("w1h1;ommgm");
            x.walker(SEER, 0, 0, 0);
            x.walker(SEER, 0, 1, 2);
            x.ticks(0, 3);
            is(x, 0, 1, 2, 3, 0, NONE);
            is(x, 1, 1, 2, 2, 1, NONE);
            t.due("side 3", x.ofSide(0, 3, 4), 1);
            Counted y = of("w1h1;omggm");
            y.walker(SEER, 0, 0, 2);
            y.walker(SEER, 0, 1, 2);
            y.ticks(0, 1);
            t.due("side 2 by the one", y.ofSide(0, 2, 4), 1);
            t.due("side 3 by the other", y.ofSide(0, 3, 4), 1);
        });
        t.test(16, "A TICK of all WALKERS that are not OUT: those that are have no more", () -> {
            Counted x = of(Due.all(1, 1, 'o'));
            x.walker(BLIND, 0, 0, 0);
            x.walker(WARY, 0, 1, 0);
            t.due("one is out", x.ticks(0, 1), 1);
            is(x, 0, NONE, 1, 1, 0, 1);
            is(x, 1, 0, 2, 1, 0, NONE);
            t.due("both are", x.ticks(0, 1), 0);
            t.due("both are", x.ticks(0, 200), 0);
            is(x, 0, NONE, 1, 1, 0, 1);
            is(x, 1, NONE, 0, 2, 0, 2);
        });
        t.test(16, "how many of its WALKERS are not OUT: of that HOUSE alone; of the others none has a TICK", () -> {
            Counted x = of(Due.all(1, 1, 'o'));
            Due.build(x, Due.all(1, 1, 'g'));
            Due.build(x, Due.all(1, 1, 'm'));
            for (int w = 0; w < 8; w++) x.walker(w % 3, w < 2 ? 0 : w < 5 ? 1 : 2, 0, 0);
            t.due("none of house 0", x.ticks(0, 1), 0);
            for (int w = 2; w < 8; w++) is(x, w, 0, 0, 0, 0, NONE);
            t.due("3 of house 1", x.ticks(1, 1), 3);
            t.due("3 of house 2", x.ticks(2, 1), 3);
            t.due("none smeared in house 0", x.ofHouse(0, 7), 0);
            t.due("one by each of two in house 1", x.ofHouse(1, 7), 2);
        });
    }

    private static void howManyTicks() {
        t.test(16, "n TICKS (0 .. 200): 0: none", () -> {
            Counted x = of("w1h1;ommmm");
            x.walker(BLIND, 0, 0, 0);
            t.due("n 0", x.ticks(0, 0), 1);
            is(x, 0, 0, 0, 0, 0, NONE);
        });
        t.test(16, "n TICKS (0 .. 200): each number of them, 200 too", () -> {
            for (int n : new int[] {1, 2, 3, 199, 200}) {
                Counted x = of("w1h1;ommmm");
                x.walker(BLIND, 0, 0, 0);
                t.due("n " + n, x.ticks(0, n), 1);
                is(x, 0, n % 2, 2, n, 0, NONE);
                t.due("and " + n + " more", x.ticks(0, n), 1);
                is(x, 0, 0, 2, 2 * n, 0, NONE);
            }
        });
        t.test(16, "n TICKS of a HOUSE without WALKERS; of one with 8", () -> {
            Counted x = of(Due.all(1, 1, 'm'));
            Due.build(x, Due.all(1, 1, 'm'));
            t.due("none", x.ticks(0, 200), 0);
            for (int w = 0; w < 8; w++) x.walker(w % 3, 1, 0, 0);
            t.due("none", x.ticks(0, 200), 0);
            t.due("8", x.ticks(1, 200), 8);
        });
        t.test(16, "UNKNOWN: HOUSE", () -> {
            for (int h : new int[] {-1, 2, 3, LEAST, MOST}) ticks("of house " + h, h, 1, UNKNOWN);
            t.refused("ticks of house 3", Recipes.FULL, x -> x.ticks(3, 1), UNKNOWN, Cases.STAYS);
        });
        t.test(16, "OUTSIDE: n (0 .. 200)", () -> {
            for (int n : new int[] {-1, 201, LEAST, MOST}) ticks("n " + n, 0, n, OUTSIDE);
        });
        t.test(16, "UNKNOWN; OUTSIDE: in this order", () -> ticks("both", 2, 201, UNKNOWN));
    }

    private static void ticks(String call, int h, int n, int want) {
        t.refused("ticks " + call, Recipes.SOME, x -> x.ticks(h, n), want, Cases.STAYS);
    }

    // ---- promise 17

    private static void ofWalker() {
        t.test(17, "0 kind, 1 HOUSE: of the first and the last WALKER, in the HOUSE and OUT", () -> {
            Counted x = Recipes.FULL.make();
            for (int w = 0; w < 8; w++) {
                t.due("kind of " + w, x.ofWalker(w, 0), w % 3);
                t.due("house of " + w, x.ofWalker(w, 1), w % 3);
            }
        });
        t.test(17, "2 ROOM (NONE: OUT): ROOM 0 and the last are none", () -> {
            Counted x = of(Due.with(Due.all(4, 3, 'm'), 'o', 1));
            x.walker(BLIND, 0, 0, 0);
            x.walker(BLIND, 0, 23, 0);
            t.due("room 0", x.ofWalker(0, 2), 0);
            t.due("room 23", x.ofWalker(1, 2), 23);
            x.ticks(0, 1);
            t.due("out", x.ofWalker(0, 2), NONE);
            t.due("room 23", x.ofWalker(1, 2), 23);
        });
        t.test(17, "3 by which WAY it CAME: by which it is OUT, too; as ahead if it stays or runs into GLASS", () -> {
            Counted x = of("w1h1;mgoom");
            x.walker(SEER, 0, 0, 2);
            x.pane(0, 2, 1);
            x.ticks(0, 1);
            t.due("ran", x.ofWalker(0, 3), 2);
            x.ticks(0, 1);
            t.due("ran", x.ofWalker(0, 3), 2);
            x.ticks(0, 1);
            t.due("stays", x.ofWalker(0, 3), 2);
            x.pane(0, 1, 2);
            x.ticks(0, 1);
            t.due("out by 1", x.ofWalker(0, 3), 1);
            is(x, 0, NONE, 1, 1, 2, 4);
        });
        t.test(17, "4 TICKS in which it went: not those in which it stayed or ran", () -> {
            Counted x = of("w1h1;omggm");
            x.walker(SEER, 0, 0, 2);
            x.ticks(0, 1);
            t.due("ran", x.ofWalker(0, 4), 0);
            x.ticks(0, 1);
            t.due("went", x.ofWalker(0, 4), 1);
            x.ticks(0, 1);
            t.due("ran", x.ofWalker(0, 4), 1);
            x.pane(0, 0, 0);
            x.ticks(0, 5);
            t.due("stayed", x.ofWalker(0, 4), 1);
            t.due("ran", x.ofWalker(0, 5), 2);
        });
        t.test(17, "5 how often it ran into GLASS: never, into each", () -> {
            Counted x = of(Due.all(1, 1, 'g'));
            x.walker(BLIND, 0, 0, 0);
            x.walker(WARY, 0, 0, 0);
            x.ticks(0, 2);
            t.due("blind", x.ofWalker(0, 5), 0);
            t.due("wary", x.ofWalker(1, 5), 2);
            x.ticks(0, 50);
            t.due("wary", x.ofWalker(1, 5), 3);
        });
        t.test(17, "6 TICKS till it was OUT (all that there were for it; NONE): those in which it stayed and ran, too", () -> {
            Counted x = of("w1h1;mgmmm");
            x.ticks(0, 50);
            x.walker(SEER, 0, 0, 0);
            t.due("new", x.ofWalker(0, 6), NONE);
            x.ticks(0, 10);
            t.due("in", x.ofWalker(0, 6), NONE);
            x.pane(0, 2, 2);
            x.ticks(0, 5);
            t.due("out by the eleventh", x.ofWalker(0, 6), 11);
            x.ticks(0, 5);
            t.due("and no more", x.ofWalker(0, 6), 11);
            x.walker(SEER, 0, 0, 0);
            x.ticks(0, 5);
            t.due("at once", x.ofWalker(1, 6), 1);
        });
        t.test(17, "6 TICKS till it was OUT: more than 200", () -> {
            Counted x = of("w1h1;ommmm");
            x.walker(BLIND, 0, 0, 0);
            for (int k = 0; k < 5; k++) x.ticks(0, 200);
            x.pane(0, 1, 2);
            x.ticks(0, 200);
            is(x, 0, NONE, 1, 1001, 0, 1001);
        });
        t.test(17, "UNKNOWN: WALKER", () -> {
            for (int w : new int[] {-1, 4, 8, LEAST, MOST}) ofWalker("of " + w, w, 0, UNKNOWN);
            t.refused("ofWalker of 0", Recipes.NEW, x -> x.ofWalker(0, 0), UNKNOWN, Cases.STAYS);
            t.refused("ofWalker of 8", Recipes.FULL, x -> x.ofWalker(8, 0), UNKNOWN, Cases.STAYS);
            t.due("the last one", Recipes.SOME.make().ofWalker(3, 1), 1);
        });
        t.test(17, "OUTSIDE: what is 0 .. 6", () -> {
            for (int what : new int[] {-1, 7, LEAST, MOST}) ofWalker("what " + what, 0, what, OUTSIDE);
        });
        t.test(17, "UNKNOWN; OUTSIDE: in this order", () -> ofWalker("both", 4, 7, UNKNOWN));
    }

    private static void ofWalker(String call, int w, int what, int want) {
        t.refused("ofWalker " + call, Recipes.SOME, x -> x.ofWalker(w, what), want, Cases.STAYS);
    }
}
