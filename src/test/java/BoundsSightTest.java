/** The boundary cases of promises 7 to 14 and of Terms 2, each in a test of its own. */
public final class BoundsSightTest {
    private static final int UNKNOWN = -1, OUTSIDE = -2, STATE = -3, FULL = -4, NONE = -9;
    private static final int LEAST = Integer.MIN_VALUE, MOST = Integer.MAX_VALUE;
    private static final int POST = 0, OUT = 1, NOT_YET = 2;
    private static final int[][] NO_TURNS = {{0, 0}, {61, 0}, {-61, 0}, {0, 61}, {0, -61}, {61, 61}, {-61, -61}, {60, 61},
        {61, -60}, {LEAST, 0}, {0, LEAST}, {MOST, 1}, {1, MOST}, {LEAST, LEAST}, {65536, 1}, {256, 1}};
    private static final int[][] LAST_TURNS = {{60, 0}, {-60, 0}, {0, 60}, {0, -60}, {60, 60}, {-60, -60}, {60, -60}, {-60, 60},
        {1, 0}, {0, 1}, {-1, 0}, {0, -1}};
    private static final Cases t = new Cases();

    public static void main(String[] args) {
        ends();
        folds();
        refusalsOfSeen();
        met();
        image();
        images();
        reports();
        spots();
        photographs();
        refusalsOfPhotograph();
        taken();
        t.end(7, 14);
    }

    private static Counted of(String text) {
        Counted x = new Counted();
        t.due("house " + text, Due.build(x, text), 0);
        return x;
    }

    private static void seen(Counted x, int room, int p, int q, int n, int... want) {
        for (int what = 0; what < 4; what++) {
            t.due("seen from " + room + " by " + p + ", " + q + " for " + n + ": " + what, x.seen(0, room, p, q, n, what), want[what]);
        }
    }

    // ---- promise 7 and the ends of sight

    private static void ends() {
        t.test(7, "Terms 2: It ENDS as it comes to a POST: at once, by no CROSSINGS", () -> {
            Counted x = of(Due.all(1, 1, 'o'));
            for (int[] turn : new int[][] {{-1, -1}, {2, -1}, {-1, 2}}) {
                seen(x, 0, turn[0], turn[1], 1, POST, 0, 0, 0);
                seen(x, 1, -turn[0], -turn[1], 1, POST, 0, 0, 1);
                seen(x, 0, 20 * turn[0], 20 * turn[1], 200, POST, 0, 0, 0);
            }
        });
        t.test(7, "Terms 2: It ENDS as it comes to a POST (whatever is told of SIDES there)", () -> {
            for (char kind : new char[] {'m', 'g', 'o'}) {
                Counted x = of(Due.all(2, 2, kind));
                int last = kind == 'm' ? 0 : 1;
                seen(x, 0, 1, 1, 200, POST, 1, kind == 'm' ? 1 : 0, last);
                seen(x, 0, -1, -1, 200, POST, 0, 0, 0);
            }
        });
        t.test(7, "Terms 2: It ENDS as it comes to a POST: by the BORDERS, too", () -> {
            Counted x = of("w1h1;ommmm");
            seen(x, 0, 1, 1, 200, POST, 1, 0, 1);
            seen(x, 1, -1, -1, 200, POST, 1, 0, 0);
            Counted y = of("w1h1;ommoo");
            seen(y, 0, 1, 1, 200, POST, 1, 0, 1);
        });
        t.test(7, "how it ENDS: 1 OUT: by an OPEN BORDER, by one of GLASS, not by a MIRROR", () -> {
            for (char kind : new char[] {'o', 'g'}) {
                Counted x = of(Due.with(Due.all(1, 1, 'm'), kind, 1));
                seen(x, 0, -1, 0, 1, OUT, 1, 0, 0);
                seen(x, 0, -1, 0, 200, OUT, 1, 0, 0);
            }
            seen(of(Due.all(1, 1, 'm')), 0, -1, 0, 1, NOT_YET, 1, 1, 0);
        });
        t.test(7, "1 OUT: by GLASS that is SMEARED, too", () -> {
            Counted x = of(Due.with(Due.all(1, 1, 'm'), 'g', 1));
            x.walker(1, 0, 0, 0);
            x.ticks(0, 1);
            t.due("smeared", x.ofSide(0, 1, 4), 1);
            seen(x, 0, -1, 0, 200, OUT, 1, 0, 0);
        });
        t.test(7, "1 OUT: by each BORDER of each room by one; the ROOM it is in last is within", () -> {
            Counted x = of(Due.all(2, 2, 'o'));
            int[][] outs = {{0, -3, -1}, {0, -1, -3}, {2, -1, -3}, {4, -3, -1}, {3, 3, 1}, {7, 3, 1}, {5, 1, 3}, {7, 1, 3}};
            for (int[] out : outs) seen(x, out[0], out[1], out[2], 200, OUT, 1, 0, out[0]);
        });
        t.test(7, "CROSSINGS (that by which it is OUT, too)", () -> {
            Counted x = of(Due.all(4, 1, 'o'));
            for (int c = 0; c < 4; c++) {
                seen(x, 2 * c, -1, 0, 200, OUT, 2 * c + 1, 0, 0);
                seen(x, 2 * c + 1, 1, 0, 200, OUT, 7 - 2 * c, 0, 7);
            }
        });
        t.test(7, "2 not yet, behind n: one CROSSING less than by which it is OUT, just these, one more", () -> {
            Counted x = of(Due.all(4, 1, 'o'));
            seen(x, 0, 1, 0, 1, NOT_YET, 1, 0, 1);
            seen(x, 0, 1, 0, 7, NOT_YET, 7, 0, 7);
            seen(x, 0, 1, 0, 8, OUT, 8, 0, 7);
            seen(x, 0, 1, 0, 9, OUT, 8, 0, 7);
        });
        t.test(7, "2 not yet, behind n: just the CROSSINGS ahead of a POST, one less, one more", () -> {
            Counted x = of(Due.all(2, 1, 'o'));
            seen(x, 0, 4, 1, 2, NOT_YET, 2, 0, 2);
            seen(x, 0, 4, 1, 3, NOT_YET, 3, 0, 3);
            seen(x, 0, 4, 1, 4, OUT, 4, 0, 3);
            seen(x, 0, 5, -1, 1, NOT_YET, 1, 0, 1);
            seen(x, 0, 5, -1, 2, NOT_YET, 2, 0, 2);
            seen(x, 0, 5, -1, 3, POST, 2, 0, 2);
        });
        t.test(7, "SEEN for n CROSSINGS (1 .. 200): OUT by the 200th", () -> {
            Counted x = of("w2h1;omooommmm");
            seen(x, 1, -16, 33, 199, NOT_YET, 199, 100, 0);
            seen(x, 1, -16, 33, 200, OUT, 200, 100, 0);
        });
        t.test(7, "SEEN for n CROSSINGS (1 .. 200): by the 201st it would be OUT", () -> {
            Counted x = of("w2h1;omooommmm");
            seen(x, 0, -33, 17, 200, NOT_YET, 200, 100, 0);
        });
        t.test(7, "MIRRORS among them: none, all", () -> {
            seen(of(Due.all(4, 3, 'o')), 0, 7, 5, 200, OUT, 12, 0, 23);
            seen(of(Due.all(4, 3, 'm')), 13, 1, 0, 200, NOT_YET, 200, 200, 13);
            seen(of(Due.all(4, 3, 'm')), 13, 1, 0, 1, NOT_YET, 1, 1, 13);
        });
        t.test(7, "Terms 2: TURN: its length is of no matter to what is seen", () -> {
            Counted x = of("w2h1;omooommmm");
            for (int f = 1; f <= 12; f++) seen(x, 2, 5 * f, -3 * f, 9, NOT_YET, 9, x.seen(0, 2, 5, -3, 9, 2), x.seen(0, 2, 5, -3, 9, 3));
        });
    }

    private static void folds() {
        t.test(7, "Terms 2: MIRROR: the same ROOM, folded over at that SIDE: each WAY, of each of the two", () -> {
            // to be out by a border one must cross the way of the plane that the fold has laid it along
            int[][] turns = {{1, -3}, {-3, 1}, {3, 1}};
            for (int over = 0; over < 3; over++) {
                for (int room = 0; room < 2; room++) {
                    int sign = room == 0 ? 1 : -1;
                    int p = sign * turns[over][0], q = sign * turns[over][1];
                    Counted x = of(Due.all(1, 1, 'm'));
                    t.due("first side", x.met(0, room, p, q, 0), x.side(0, room, over));
                    int second = x.met(0, room, p, q, 1);
                    t.due("second side", second, x.side(0, room, new int[] {1, 0, 0}[over]));
                    if (second == 0) continue;
                    x.pane(0, second, 2);
                    seen(x, room, p, q, 200, OUT, 2, 1, room);
                    x.pane(0, second, 1);
                    seen(x, room, p, q, 200, OUT, 2, 1, room);
                }
            }
        });
        t.test(7, "Terms 2: of GLASS, OPEN: the ROOM behind it from now on, folded as the one ahead of it", () -> {
            // over the mirror of way 0, then through side 0 that lies along way 1 of the plane, then to a side of way 1
            // (or over that of way 1, through side 0 that lies along way 0, then to a side of way 0)
            for (char kind : new char[] {'o', 'g'}) {
                Counted x = of(Due.with(Due.all(1, 1, 'm'), kind, 0));
                int[] sides = {2, 0, 3}, others = {1, 0, 4}, rooms = {0, 1, 1}, mirrors = {1, 1, 2};
                for (int k = 0; k < 3; k++) {
                    t.due("side " + k, x.met(0, 0, 3, -2, k), sides[k]);
                    t.due("side " + k, x.met(0, 0, -2, 3, k), others[k]);
                    seen(x, 0, 3, -2, k + 1, NOT_YET, k + 1, mirrors[k], rooms[k]);
                    seen(x, 0, -2, 3, k + 1, NOT_YET, k + 1, mirrors[k], rooms[k]);
                }
            }
        });
    }

    private static void refusalsOfSeen() {
        t.test(7, "UNKNOWN: HOUSE, ROOM", () -> {
            for (int h : new int[] {-1, 2, LEAST, MOST}) refusedSeen("of house " + h, h, 0, 1, 0, 5, 0, UNKNOWN);
            for (int room : new int[] {-1, 4, 24, LEAST, MOST}) refusedSeen("of room " + room, 0, room, 1, 0, 5, 0, UNKNOWN);
            t.due("the last room", Recipes.SOME.make().seen(1, 3, 1, 1, 5, 3), 3);
        });
        t.test(7, "OUTSIDE: the TURN (whole numbers -60 .. 60, not both 0)", () -> {
            for (int[] turn : NO_TURNS) refusedSeen("by " + turn[0] + ", " + turn[1], 0, 0, turn[0], turn[1], 5, 0, OUTSIDE);
            Counted x = of(Due.all(1, 1, 'm'));
            for (int[] turn : LAST_TURNS) {
                int posts = turn[0] == turn[1] ? 1 : 0;
                t.due("by " + turn[0] + ", " + turn[1], x.seen(0, 0, turn[0], turn[1], 7, 0), posts == 1 ? POST : NOT_YET);
            }
        });
        t.test(7, "OUTSIDE: n (1 .. 200)", () -> {
            for (int n : new int[] {0, -1, 201, LEAST, MOST}) refusedSeen("n " + n, 0, 0, 1, 0, n, 0, OUTSIDE);
            Counted x = of(Due.all(1, 1, 'm'));
            seen(x, 0, 1, 0, 1, NOT_YET, 1, 1, 0);
            seen(x, 0, 1, 0, 2, NOT_YET, 2, 2, 0);
            seen(x, 0, 1, 0, 199, NOT_YET, 199, 199, 0);
            seen(x, 0, 1, 0, 200, NOT_YET, 200, 200, 0);
        });
        t.test(7, "OUTSIDE: what is 0 .. 3", () -> {
            for (int what : new int[] {-1, 4, LEAST, MOST}) refusedSeen("what " + what, 0, 0, 1, 0, 5, what, OUTSIDE);
        });
        t.test(7, "UNKNOWN; OUTSIDE: in this order", () -> {
            refusedSeen("house and turn", 2, 0, 0, 0, 5, 0, UNKNOWN);
            refusedSeen("house and n", 2, 0, 1, 0, 0, 0, UNKNOWN);
            refusedSeen("room and turn", 0, 4, 61, 0, 5, 0, UNKNOWN);
            refusedSeen("room and what", 0, -1, 1, 0, 5, 4, UNKNOWN);
        });
    }

    private static void refusedSeen(String call, int h, int room, int p, int q, int n, int what, int want) {
        t.refused("seen " + call, Recipes.SOME, x -> x.seen(h, room, p, q, n, what), want, Cases.STAYS);
    }

    // ---- promise 8

    private static void met() {
        t.test(8, "The k-th SIDE (0 on) that the line CROSSES: the first, the last, NONE behind it", () -> {
            Counted x = of(Due.all(2, 1, 'o'));
            int[] sides = {0, 4, 3, 6};
            for (int k = 0; k < 4; k++) t.due("k " + k, x.met(0, 0, 1, 0, k), sides[k]);
            t.due("behind that by which it is out", x.met(0, 0, 1, 0, 4), NONE);
            t.due("far behind", x.met(0, 0, 1, 0, 199), NONE);
        });
        t.test(8, "NONE: it does not so often: it ENDS at a POST", () -> {
            Counted x = of(Due.all(1, 1, 'm'));
            t.due("ahead of the post", x.met(0, 0, 1, 1, 0), 0);
            t.due("at the post", x.met(0, 0, 1, 1, 1), NONE);
            t.due("at a post at once", x.met(0, 0, -1, -1, 0), NONE);
        });
        t.test(8, "for 200 CROSSINGS: k 199, k 200", () -> {
            Counted x = of(Due.all(1, 1, 'm'));
            t.due("k 0", x.met(0, 0, 1, 0, 0), 0);
            t.due("k 198", x.met(0, 0, 1, 0, 198), 0);
            t.due("k 199", x.met(0, 0, 1, 0, 199), 2);
            t.due("k 200", x.met(0, 0, 1, 0, 200), NONE);
            t.due("k 201", x.met(0, 0, 1, 0, 201), NONE);
        });
        t.test(8, "for 200 CROSSINGS: OUT by the 200th, by the 201st", () -> {
            Counted x = of("w2h1;omooommmm");
            t.due("the 199th", x.met(0, 1, -16, 33, 198), 1);
            t.due("the 200th", x.met(0, 1, -16, 33, 199), 2);
            t.due("none behind", x.met(0, 1, -16, 33, 200), NONE);
            t.due("the 200th", x.met(0, 0, -33, 17, 199), 0);
            t.due("the 201st is none", x.met(0, 0, -33, 17, 200), NONE);
        });
        t.test(8, "k that wraps around", () -> {
            Counted x = of(Due.all(1, 1, 'm'));
            t.due("the most", x.met(0, 0, 1, 0, MOST), NONE);
            t.due("the most less 1", x.met(0, 0, 1, 0, MOST - 1), NONE);
            t.due("256", x.met(0, 0, 1, 0, 256), NONE);
        });
        t.test(8, "UNKNOWN: HOUSE, ROOM", () -> {
            for (int h : new int[] {-1, 2, LEAST, MOST}) refusedMet("of house " + h, h, 0, 1, 0, 0, UNKNOWN);
            for (int room : new int[] {-1, 4, 24, LEAST, MOST}) refusedMet("of room " + room, 0, room, 1, 0, 0, UNKNOWN);
            t.due("the last room", Recipes.SOME.make().met(1, 3, 1, 0, 0), 6);
        });
        t.test(8, "OUTSIDE: the TURN (whole numbers -60 .. 60, not both 0)", () -> {
            for (int[] turn : NO_TURNS) refusedMet("by " + turn[0] + ", " + turn[1], 0, 0, turn[0], turn[1], 0, OUTSIDE);
            refusedMet("no turn, k 500", 0, 0, 0, 0, 500, OUTSIDE);
            Counted x = of(Due.all(1, 1, 'm'));
            int[] first = {0, 1, 0, 2, 0, NONE, 2, 1, 0, 0, 1, 2};
            for (int k = 0; k < LAST_TURNS.length; k++) {
                t.due("by " + LAST_TURNS[k][0] + ", " + LAST_TURNS[k][1], x.met(0, 0, LAST_TURNS[k][0], LAST_TURNS[k][1], 0), first[k]);
            }
        });
        t.test(8, "OUTSIDE: k below 0", () -> {
            for (int k : new int[] {-1, LEAST}) refusedMet("k " + k, 0, 0, 1, 0, k, OUTSIDE);
        });
        t.test(8, "UNKNOWN; OUTSIDE: in this order", () -> {
            refusedMet("house and turn", 2, 0, 0, 0, 0, UNKNOWN);
            refusedMet("room and k", 0, 4, 1, 0, -1, UNKNOWN);
        });
    }

    private static void refusedMet(String call, int h, int room, int p, int q, int k, int want) {
        t.refused("met " + call, Recipes.SOME, x -> x.met(h, room, p, q, k), want, Cases.STAYS);
    }

    // ---- promise 9

    private static void image() {
        t.test(9, "NONE: there is no middle there: of 9 ends one is a first middle, one a second one", () -> {
            Counted x = of(Due.all(1, 1, 'm'));
            for (int room = 0; room < 2; room++) {
                for (int p = -6; p <= 6; p++) {
                    for (int q = -6; q <= 6; q++) {
                        int u = Math.floorMod(1 + room + p, 3), v = Math.floorMod(1 + room + q, 3);
                        boolean middle = u == v && u != 0;
                        if (p == 0 && q == 0 || middle) continue;
                        t.due("from " + room + " by " + p + ", " + q, x.image(0, room, p, q), NONE);
                    }
                }
            }
        });
        t.test(9, "IMAGE by a TURN: just p, q: the first middle, not the next one behind it", () -> {
            Counted x = of(Due.all(3, 1, 'o'));
            t.due("3, 0", x.image(0, 0, 3, 0), 2);
            t.due("6, 0", x.image(0, 0, 6, 0), 4);
            t.due("9, 0", x.image(0, 0, 9, 0), NONE);
            t.due("1, 1", x.image(0, 0, 1, 1), 1);
            t.due("4, 1", x.image(0, 0, 4, 1), 3);
            t.due("7, 1", x.image(0, 0, 7, 1), 5);
            t.due("10, 1", x.image(0, 0, 10, 1), NONE);
            t.due("from 5 by -7, -1", x.image(0, 5, -7, -1), 0);
            t.due("from 5 by -3, 0", x.image(0, 5, -3, 0), 3);
        });
        t.test(9, "NONE: it ENDED ahead: at a POST ahead of a middle; a POST just behind it is of no matter", () -> {
            Counted x = of(Due.all(2, 2, 'o'));
            t.due("a post behind", x.image(0, 0, 1, 1), 1);
            t.due("a post ahead", x.image(0, 0, 3, 3), NONE);
            t.due("a post ahead", x.image(0, 0, 4, 4), NONE);
            t.due("a post ahead", x.image(0, 1, 2, 2), NONE);
            t.due("a post ahead at once", x.image(0, 6, -2, -2), NONE);
            t.due("a post at the end", x.image(0, 0, 2, 2), NONE);
        });
        t.test(9, "NONE: it ENDED ahead: OUT by the last CROSSING; OUT just behind the end is of no matter", () -> {
            Counted x = of(Due.all(2, 1, 'o'));
            t.due("in the last room", x.image(0, 0, 4, 1), 3);
            t.due("behind the border", x.image(0, 0, 6, 0), NONE);
            t.due("behind the border by 0", x.image(0, 0, -2, 1), NONE);
            Counted y = of(Due.with(Due.all(2, 1, 'o'), 'm', 6));
            t.due("a mirror there", y.image(0, 0, 6, 0), 3);
        });
        t.test(9, "NONE: it ENDED ahead: OUT, though the line would come back into the PLANE's part of it", () -> {
            // over side 0, a mirror, then to side 2, that lies along way 1 of the plane
            Counted x = of(Due.with(Due.all(1, 1, 'm'), 'o', 2));
            t.due("out by side 2", x.image(0, 0, 3, 0), NONE);
            x.pane(0, 2, 1);
            t.due("glass: out, too", x.image(0, 0, 3, 0), NONE);
            x.pane(0, 2, 0);
            t.due("a mirror", x.image(0, 0, 3, 0), 0);
            x.pane(0, 0, 2);
            t.due("a mirror", x.image(0, 0, 3, 0), 1);
        });
        t.test(9, "IMAGE: the ROOM itself, by a MIRROR; the ROOM behind, by none", () -> {
            Counted x = of(Due.all(1, 1, 'm'));
            for (int[] turn : new int[][] {{1, 1}, {1, -2}, {-2, 1}}) {
                t.due("0 by " + turn[0] + ", " + turn[1], x.image(0, 0, turn[0], turn[1]), 0);
                t.due("1 by " + -turn[0] + ", " + -turn[1], x.image(0, 1, -turn[0], -turn[1]), 1);
            }
            x.pane(0, 0, 1);
            t.due("glass", x.image(0, 0, 1, 1), 1);
            t.due("glass", x.image(0, 1, -1, -1), 0);
        });
        t.test(9, "IMAGE: the longest TURNS: all that there is ahead of their ends is CROSSED", () -> {
            Counted x = of(Due.all(1, 1, 'm'));
            x.pane(0, 0, 2);
            // along a way it is through side 0 by each third of 40 crossings: the 1st, the 4th .., or the 3rd, the 6th ..
            int[][] ends = {{60, 0, 0}, {0, 60, 0}, {-60, 0, 1}, {0, -60, 1}, {60, -60, 1}, {-60, 60, 1}};
            for (int[] end : ends) t.due("by " + end[0] + ", " + end[1], x.image(0, 0, end[0], end[1]), end[2]);
        });
        t.test(9, "IMAGE: by GLASS that is SMEARED, too", () -> {
            Counted x = of(Due.with(Due.all(1, 1, 'm'), 'g', 0));
            x.walker(1, 0, 0, 0);
            x.ticks(0, 1);
            t.due("smeared", x.ofSide(0, 0, 4), 1);
            t.due("the room behind", x.image(0, 0, 1, 1), 1);
            t.due("none of itself", x.images(0, 0, 0, 1, 0), 0);
        });
        t.test(9, "UNKNOWN: HOUSE, ROOM", () -> {
            for (int h : new int[] {-1, 2, LEAST, MOST}) refusedImage("of house " + h, h, 0, 1, 1, UNKNOWN);
            for (int room : new int[] {-1, 4, 24, LEAST, MOST}) refusedImage("of room " + room, 0, room, 1, 1, UNKNOWN);
            t.due("the last room", Recipes.SOME.make().image(1, 3, -1, -1), 2);
        });
        t.test(9, "OUTSIDE: the TURN (whole numbers -60 .. 60, not both 0)", () -> {
            for (int[] turn : NO_TURNS) refusedImage("by " + turn[0] + ", " + turn[1], 0, 0, turn[0], turn[1], OUTSIDE);
        });
        t.test(9, "UNKNOWN; OUTSIDE: in this order", () -> {
            refusedImage("house and turn", 2, 0, 0, 0, UNKNOWN);
            refusedImage("room and turn", 0, 4, 61, 0, UNKNOWN);
        });
    }

    private static void refusedImage(String call, int h, int room, int p, int q, int want) {
        t.refused("image " + call, Recipes.SOME, x -> x.image(h, room, p, q), want, Cases.STAYS);
    }

    // ---- promise 10

    /** In a house of mirrors a room is the image of itself by each turn to a middle with no post ahead of it. */
    private static int imagesOfMirrors(int thirds, int g) {
        int count = 0;
        for (int p = -g; p <= g; p++) {
            for (int q = -g; q <= g; q++) {
                int u = Math.floorMod(thirds + p, 3);
                if ((p != 0 || q != 0) && u != 0 && u == Math.floorMod(thirds + q, 3) && !postAhead(thirds, p, q)) count++;
            }
        }
        return count;
    }

    /** Posts are thirds, too: at one of the points at which the line is at whole thirds of both. */
    private static boolean postAhead(int thirds, int p, int q) {
        int parts = java.math.BigInteger.valueOf(p).gcd(java.math.BigInteger.valueOf(q)).intValue();
        for (int k = 1; k < parts; k++) {
            if ((thirds + k * (p / parts)) % 3 == 0 && (thirds + k * (q / parts)) % 3 == 0) return true;
        }
        return false;
    }

    private static void images(Counted x, int room, int r, int g, int count, int p, int q) {
        String call = "images of " + r + " from " + room + " within " + g + ": ";
        t.due(call + "how many", x.images(0, room, r, g, 0), count);
        t.due(call + "p", x.images(0, room, r, g, 1), p);
        t.due(call + "q", x.images(0, room, r, g, 2), q);
    }

    private static void images() {
        t.test(10, "NONE: there are none (what 1, 2); how many: 0", () -> {
            images(of(Due.all(1, 1, 'm')), 0, 1, 24, 0, NONE, NONE);
            images(of(Due.all(1, 1, 'o')), 0, 0, 24, 0, NONE, NONE);
            images(of(Due.all(4, 3, 'o')), 0, 0, 24, 0, NONE, NONE);
        });
        t.test(10, "from another one (perhaps the same)", () -> {
            images(of(Due.all(1, 1, 'o')), 0, 1, 24, 1, 1, 1);
            images(of(Due.all(1, 1, 'm')), 0, 0, 1, 1, 1, 1);
        });
        t.test(10, "all TURNS of p, q -g .. g: the last p, the last q, on both sides", () -> {
            Counted x = of(Due.all(4, 3, 'o'));
            images(x, 0, 4, 5, 0, NONE, NONE);
            images(x, 0, 4, 6, 1, 6, 0);
            images(x, 4, 0, 5, 0, NONE, NONE);
            images(x, 4, 0, 6, 1, -6, 0);
            images(x, 0, 16, 5, 0, NONE, NONE);
            images(x, 0, 16, 6, 1, 0, 6);
            images(x, 16, 0, 5, 0, NONE, NONE);
            images(x, 16, 0, 6, 1, 0, -6);
            images(x, 0, 11, 3, 0, NONE, NONE);
        });
        t.test(10, "within g (1 .. 24): g 1, g 24", () -> {
            Counted x = of(Due.all(1, 1, 'm'));
            images(x, 0, 0, 1, 1, 1, 1);
            images(x, 1, 1, 1, 1, -1, -1);
            for (int g = 2; g <= 24; g++) images(x, 0, 0, g, imagesOfMirrors(1, g), -2, 1);
            for (int g = 2; g <= 24; g++) images(x, 1, 1, g, imagesOfMirrors(2, g), -1, -1);
            t.due("24 is more than 23", imagesOfMirrors(1, 24) > imagesOfMirrors(1, 23) ? 1 : 0, 1);
        });
        t.test(10, "the NEAREST: that of the least pp and pq and qq: not of the least p or q, not of pp and qq", () -> {
            Counted x = of(Due.all(1, 1, 'm'));
            x.pane(0, 0, 2);
            images(x, 0, 1, 1, 1, 1, 1);
            images(x, 0, 1, 24, x.images(0, 0, 1, 24, 0), 1, 1);
            images(x, 0, 0, 24, x.images(0, 0, 0, 24, 0), -2, 1);
        });
        t.test(10, "the NEAREST: that of the least pp and pq and qq: of 5, of 7 that are not as near", () -> {
            // -3, -6: 63; 1, -2 and 1, 1: 3; 3, -3 and 3, 0: 9
            images(of("w2h1;ommmommmo"), 2, 2, 6, 5, 1, -2);
            // -6, -3: 63; -3, 3 and 0, 3: 9; -2, 1 and 1, 1: 3; 0, -6 and 6, -6: 36
            images(of("w2h2;mommmgmgommgmmmm"), 6, 6, 6, 7, -2, 1);
            // 6, -6 and 6, 0: 36
            images(of("w2h1;gogmgmoog"), 1, 1, 6, 2, 6, -6);
        });
        t.test(10, "of several the least p", () -> {
            Counted x = of(Due.all(1, 1, 'm'));
            images(x, 0, 0, 2, 3, -2, 1);
            x.pane(0, 1, 2);
            images(x, 0, 0, 2, 2, 1, -2);
        });
        t.test(10, "of several the least p, then the least q", () -> {
            Counted x = of(Due.all(1, 1, 'm'));
            images(x, 1, 1, 2, 3, -1, -1);
            x.pane(0, 0, 1);
            images(x, 1, 1, 2, x.images(0, 1, 1, 2, 0), -1, 2);
        });
        t.test(10, "how many: as many as there may be", () -> {
            Counted x = of(Due.all(4, 3, 'm'));
            for (int room : new int[] {0, 11, 23}) t.due("from " + room, x.images(0, room, room, 24, 0), imagesOfMirrors(1 + room % 2, 24));
        });
        t.test(10, "UNKNOWN: HOUSE, ROOMS", () -> {
            for (int h : new int[] {-1, 2, LEAST, MOST}) refusedImages("of house " + h, h, 0, 0, 1, 0, UNKNOWN);
            for (int room : new int[] {-1, 4, 24, LEAST, MOST}) {
                refusedImages("from room " + room, 0, room, 0, 1, 0, UNKNOWN);
                refusedImages("of room " + room, 0, 0, room, 1, 0, UNKNOWN);
            }
            t.due("the last rooms", Recipes.SOME.make().images(1, 3, 3, 1, 0), 0);
        });
        t.test(10, "OUTSIDE: g (1 .. 24)", () -> {
            for (int g : new int[] {0, -1, 25, LEAST, MOST}) refusedImages("g " + g, 0, 0, 1, g, 0, OUTSIDE);
        });
        t.test(10, "OUTSIDE: what is 0 .. 2", () -> {
            for (int what : new int[] {-1, 3, LEAST, MOST}) refusedImages("what " + what, 0, 0, 1, 1, what, OUTSIDE);
            // none are there: what is looked at all the same
            refusedImages("what 3 of none", 0, 0, 0, 1, 3, OUTSIDE);
        });
        t.test(10, "UNKNOWN; OUTSIDE: in this order", () -> {
            refusedImages("house and g", 2, 0, 0, 0, 0, UNKNOWN);
            refusedImages("room and what", 0, 4, 0, 1, 3, UNKNOWN);
            refusedImages("the other room and g", 0, 0, 4, 25, 0, UNKNOWN);
        });
    }

    private static void refusedImages(String call, int h, int room, int r, int g, int what, int want) {
        t.refused("images " + call, Recipes.SOME, x -> x.images(h, room, r, g, what), want, Cases.STAYS);
    }

    // ---- promises 11, 12

    private static void reports() {
        t.test(11, "Terms 2: REPORTS, 12 ever: its number; FULL", () -> {
            Counted x = of(Due.all(1, 1, 'o'));
            for (int k = 0; k < 12; k++) {
                t.due("report " + k, x.report(0, k % 2, 1, 1, k % 3 == 0), k);
                t.due("many(1)", x.many(1), k + 1);
            }
            t.due("a 13th", x.report(0, 0, 1, 1, true), FULL);
            t.due("many(1)", x.many(1), 12);
            for (int h = 0; h < 3; h++) {
                int house = h;
                t.refused("report of house " + h, Recipes.FULL, y -> y.report(house, 1, -1, -1, false), FULL, Cases.STAYS);
            }
        });
        t.test(11, "REPORTS, 12 ever: of all HOUSES together, numbered as they come", () -> {
            Counted x = of(Due.all(1, 1, 'o'));
            Due.build(x, Due.all(1, 1, 'o'));
            for (int k = 0; k < 12; k++) t.due("report " + k, x.report(k % 2, 0, 1, 1, true), k);
            t.due("a 13th", x.report(0, 0, 1, 1, true), FULL);
            t.due("a 13th", x.report(1, 0, 1, 1, true), FULL);
        });
        t.test(11, "saw: true, it was seen there", () -> {
            Counted x = of(Due.all(1, 1, 'o'));
            x.report(0, 0, 1, 1, true);
            t.due("seen there", x.spots(0), 2);
            Counted y = of(Due.all(1, 1, 'o'));
            y.report(0, 0, 1, 1, false);
            t.due("not seen there", y.spots(0), 1);
        });
        t.test(11, "UNKNOWN: HOUSE, ROOM", () -> {
            for (int h : new int[] {-1, 2, LEAST, MOST}) refusedReport("of house " + h, h, 0, 1, 1, UNKNOWN);
            for (int room : new int[] {-1, 4, 24, LEAST, MOST}) refusedReport("of room " + room, 0, room, 1, 1, UNKNOWN);
            t.due("the last room", Recipes.SOME.make().report(1, 3, 1, 1, true), 2);
        });
        t.test(11, "OUTSIDE: the TURN (whole numbers -60 .. 60, not both 0)", () -> {
            for (int[] turn : NO_TURNS) refusedReport("by " + turn[0] + ", " + turn[1], 0, 0, turn[0], turn[1], OUTSIDE);
            Counted x = of(Due.all(1, 1, 'm'));
            for (int k = 0; k < LAST_TURNS.length; k++) t.due("report " + k, x.report(0, 0, LAST_TURNS[k][0], LAST_TURNS[k][1], false), k);
        });
        t.test(11, "UNKNOWN; OUTSIDE; FULL: in this order", () -> {
            refusedReport("house and turn", 2, 0, 0, 0, UNKNOWN);
            refusedReport("room and turn", 0, 4, 0, 0, UNKNOWN);
            t.refused("report: house and full", Recipes.FULL, x -> x.report(3, 0, 1, 1, true), UNKNOWN, Cases.STAYS);
            t.refused("report: room and full", Recipes.FULL, x -> x.report(0, 2, 1, 1, true), UNKNOWN, Cases.STAYS);
            t.refused("report: turn and full", Recipes.FULL, x -> x.report(0, 0, 0, 0, true), OUTSIDE, Cases.STAYS);
        });
    }

    private static void refusedReport(String call, int h, int room, int p, int q, int want) {
        t.refused("report " + call, Recipes.SOME, x -> x.report(h, room, p, q, true), want, Cases.STAYS);
        t.refused("report " + call, Recipes.SOME, x -> x.report(h, room, p, q, false), want, Cases.STAYS);
    }

    private static void spots() {
        t.test(12, "SPOTS: no REPORTS: all ROOMS, of the least and the widest HOUSE", () -> {
            t.due("1 by 1", of(Due.all(1, 1, 'm')).spots(0), 3);
            t.due("4 by 3", of(Due.all(4, 3, 'm')).spots(0), 16777215);
        });
        t.test(12, "SPOTS: ROOMS that are the IMAGE of all REPORTS that saw it: one, two alike, two unlike", () -> {
            Counted x = of(Due.all(2, 1, 'o'));
            x.report(0, 0, 3, 0, true);
            t.due("one", x.spots(0), 4);
            x.report(0, 3, -1, -1, true);
            t.due("two alike", x.spots(0), 4);
            x.report(0, 0, 1, 1, true);
            t.due("two unlike: none", x.spots(0), 0);
        });
        t.test(12, "SPOTS: and of none that did not", () -> {
            Counted x = of(Due.all(2, 1, 'o'));
            x.report(0, 0, 3, 0, false);
            t.due("but one", x.spots(0), 11);
            x.report(0, 0, 1, 1, false);
            t.due("but two", x.spots(0), 9);
            x.report(0, 0, 4, 1, false);
            x.report(0, 2, -3, 0, false);
            t.due("but all", x.spots(0), 0);
        });
        t.test(12, "SPOTS: REPORTS that saw it and that did not, of the same ROOM: none", () -> {
            Counted x = of(Due.all(2, 1, 'o'));
            x.report(0, 0, 3, 0, false);
            x.report(0, 0, 3, 0, true);
            t.due("none", x.spots(0), 0);
        });
        t.test(12, "SPOTS: IMAGE NONE: of one that saw it no ROOM is, of one that did not none is shut out", () -> {
            Counted x = of(Due.all(1, 1, 'o'));
            x.report(0, 0, 3, 0, false);
            x.report(0, 0, 2, 2, false);
            t.due("all", x.spots(0), 3);
            x.report(0, 0, 3, 0, true);
            t.due("none", x.spots(0), 0);
        });
        t.test(12, "Sets are told as bits: bit 23", () -> {
            Counted x = of(Due.all(4, 3, 'o'));
            x.report(0, 22, 1, 1, true);
            t.due("room 23", x.spots(0), 1 << 23);
            Counted y = of(Due.all(4, 3, 'o'));
            y.report(0, 22, 1, 1, false);
            y.report(0, 1, -1, -1, false);
            t.due("all but 0, 23", y.spots(0), (1 << 23) - 2);
        });
        t.test(12, "SPOTS of a HOUSE: not of the REPORTS of another one; the 12th counts, too", () -> {
            Counted x = of(Due.all(1, 1, 'o'));
            Due.build(x, Due.all(1, 1, 'o'));
            for (int k = 0; k < 11; k++) x.report(1, 0, 1, 1, false);
            t.due("of house 0", x.spots(0), 3);
            x.report(0, 0, 1, 1, true);
            t.due("of house 0", x.spots(0), 2);
            t.due("of house 1", x.spots(1), 1);
        });
        t.test(12, "SPOTS of a HOUSE as it is now", () -> {
            Counted x = of(Due.all(1, 1, 'o'));
            x.report(0, 0, 1, 1, true);
            x.pane(0, 0, 0);
            t.due("a mirror", x.spots(0), 1);
            x.pane(0, 0, 1);
            t.due("glass", x.spots(0), 2);
        });
        t.test(12, "UNKNOWN", () -> {
            for (int h : new int[] {-1, 2, 3, LEAST, MOST}) t.refused("spots of " + h, Recipes.SOME, x -> x.spots(h), UNKNOWN, Cases.STAYS);
            t.refused("spots of 3", Recipes.FULL, x -> x.spots(3), UNKNOWN, Cases.STAYS);
        });
    }

    // ---- promise 13

    private static int[] six(int p, int q, int ends, int crossings, int mirrors) {
        int[] rows = new int[30];
        for (int r = 0; r < 30; r += 5) System.arraycopy(new int[] {p, q, ends, crossings, mirrors}, 0, rows, r, 5);
        return rows;
    }

    private static void photographs() {
        t.test(13, "five a row: rows: 1 to 6", () -> {
            Counted x = of(Due.all(1, 1, 'm'));
            Due.row(x, 0, six(1, 0, 2, 60, 60));
            for (int rows = 1; rows <= 6; rows++) {
                t.due("rows", x.photograph(0, 2, 0, 5 * rows), rows);
                t.due("many(2)", x.many(2), rows);
                t.due("taken(0)", x.taken(0), 3);
            }
            t.due("one again", x.photograph(0, 2, 25, 5), 1);
            t.due("many(2)", x.many(2), 1);
        });
        t.test(13, "OUTSIDE: n is not 5, 10 .. 30", () -> {
            for (int n = 0; n <= 60; n++) {
                Counted x = of(Due.all(1, 1, 'm'));
                x.sheet(0, 2, 60);
                for (int k = 0; k < 60; k++) x.put(0, k, 1);
                boolean rows = n == 5 || n == 10 || n == 15 || n == 20 || n == 25 || n == 30;
                t.due("n " + n, x.photograph(0, 2, 0, n), rows ? n / 5 : OUTSIDE);
                t.due("many(2)", x.many(2), rows ? n / 5 : 0);
                t.due("fault()", x.fault(), 0);
            }
            photograph("n 0", by(1, 2, 0, 0), OUTSIDE, 0);
            photograph("n 4", by(1, 2, 0, 4), OUTSIDE, 0);
            photograph("n 6", by(1, 2, 0, 6), OUTSIDE, 0);
            t.refused("photograph n 35", Recipes.FULL, x -> x.photograph(0, 0, 0, 35), OUTSIDE, 0);
        });
        t.test(13, "OUTSIDE: a TURN: of the first, of the last row; the last p, q that are taken and the first that are not", () -> {
            for (int row = 0; row < 6; row++) {
                for (int[] turn : NO_TURNS) {
                    Counted x = of(Due.all(1, 1, 'm'));
                    Due.row(x, 0, six(1, 0, 2, 60, 60));
                    t.due("six rows", x.photograph(0, 2, 0, 30), 6);
                    Due.row(x, 0, six(1, 0, 1, 1, 1));
                    x.put(0, 5 * row, turn[0]);
                    x.put(0, 5 * row + 1, turn[1]);
                    t.due("row " + row + " by " + turn[0] + ", " + turn[1], x.photograph(0, 2, 0, 30), OUTSIDE);
                    t.due("the old one stands", x.taken(0), 3);
                    t.due("many(2)", x.many(2), 6);
                    t.due("fault()", x.fault(), 0);
                }
            }
            for (int[] turn : LAST_TURNS) {
                Counted x = of(Due.all(1, 1, 'm'));
                Due.row(x, 0, turn[0], turn[1], 2, 60, 60);
                t.due("by " + turn[0] + ", " + turn[1], x.photograph(0, 2, 0, 5), 1);
            }
        });
        t.test(13, "how it ENDS, CROSSINGS, MIRRORS may be any numbers: there is no ROOM of which they are so", () -> {
            for (int k = 2; k < 5; k++) {
                for (int v : new int[] {-1, 3, 61, 201, LEAST, MOST}) {
                    Counted x = of(Due.all(1, 1, 'm'));
                    Due.row(x, 0, 1, 0, 2, 60, 60);
                    x.put(0, k, v);
                    t.due("cell " + k + " is " + v, x.photograph(0, 2, 0, 5), 1);
                    t.due("taken(0)", x.taken(0), 0);
                }
            }
        });
        t.test(13, "such cells: of each SORT, from i on", () -> {
            for (int sort = 0; sort < 3; sort++) {
                Counted x = of(Due.all(1, 1, 'm'));
                x.sheet(2, sort, 8);
                int[] row = {1, 0, 2, 60, 60};
                for (int k = 0; k < 5; k++) x.put(2, 3 + k, row[k]);
                t.due("of sort " + sort, x.photograph(2, sort, 3, 5), 1);
                t.due("taken(0)", x.taken(0), 3);
            }
        });
        t.test(13, "THE PHOTOGRAPH becomes that of such cells: of its own, and none of the one ahead", () -> {
            Counted x = of(Due.all(1, 1, 'm'));
            Due.row(x, 0, six(1, 0, 2, 60, 60));
            x.put(0, 29, 59);
            x.photograph(0, 2, 0, 30);
            t.due("the last row is not so", x.taken(0), 0);
            x.photograph(0, 2, 0, 25);
            t.due("without it", x.taken(0), 3);
            x.put(0, 4, 59);
            t.due("its cells may change behind it", x.taken(0), 3);
            x.sheet(0, 2, 1);
            x.lose(0);
            t.due("and be lost", x.taken(0), 3);
        });
    }

    private static int[] by(int... numbers) {
        return numbers;
    }

    private static void photograph(String call, int[] a, int want, int fault) {
        t.refused("photograph " + call, Recipes.SOME, x -> x.photograph(a[0], a[1], a[2], a[3]), want, fault);
    }

    private static void refusalsOfPhotograph() {
        t.test(13, "UNKNOWN: SHEETS 0 .. 3", () -> {
            for (int k : new int[] {-1, 4, LEAST, MOST}) photograph("of sheet " + k, by(k, 2, 0, 5), UNKNOWN, 0);
            for (int k : new int[] {0, 3}) {
                Counted x = new Counted();
                Due.row(x, k, 1, 0, 0, 0, 0);
                t.due("of sheet " + k, x.photograph(k, 2, 0, 5), 1);
            }
        });
        t.test(13, "OUTSIDE: sort (0 .. 2)", () -> {
            for (int sort : new int[] {-1, 3, LEAST, MOST}) photograph("sort " + sort, by(1, sort, 0, 5), OUTSIDE, 0);
        });
        t.test(13, "FAULTS CAST", () -> {
            photograph("ints as bytes", by(1, 0, 0, 5), -12, 2);
            photograph("ints as shorts", by(1, 1, 0, 5), -12, 2);
            photograph("bytes as shorts", by(0, 1, 0, 5), -12, 2);
            photograph("shorts as bytes", by(2, 0, 0, 0), -12, 2);
        });
        t.test(13, "FAULTS NULL (nothing is no CAST)", () -> {
            for (int sort = 0; sort < 3; sort++) photograph("of nothing, sort " + sort, by(3, sort, 0, 5), -11, 1);
            t.refused("photograph of nothing ever", Recipes.NEW, x -> x.photograph(0, 2, 0, 5), -11, 1);
        });
        t.test(13, "FAULTS SIZE: a length below 0", () -> {
            for (int n : new int[] {-1, -5, LEAST}) photograph("n " + n, by(1, 2, 0, n), -14, 4);
        });
        t.test(13, "FAULTS INDEX", () -> {
            photograph("10 from 1 on", by(1, 2, 1, 10), -13, 3);
            photograph("5 from 6 on", by(1, 2, 6, 5), -13, 3);
            photograph("15 of 10", by(1, 2, 0, 15), -13, 3);
            photograph("from -1 on", by(1, 2, -1, 5), -13, 3);
            photograph("from 1, the most", by(1, 2, 1, MOST), -13, 3);
            photograph("from the most", by(1, 2, MOST, 5), -13, 3);
            photograph("from the least", by(1, 2, LEAST, 5), -13, 3);
            t.due("5 from 5 on", Recipes.SOME.make().photograph(1, 2, 5, 5), 1);
        });
        t.test(13, "INDEX (of cells from i on also where i is not 0 .. how many there are, if none of them is taken, too)", () -> {
            photograph("none from -1 on", by(1, 2, -1, 0), -13, 3);
            photograph("none from 10 on: n is not as it must", by(1, 2, 10, 0), OUTSIDE, 0);
            photograph("none from 11 on", by(1, 2, 11, 0), -13, 3);
            photograph("none of none from 0 on", by(2, 1, 0, 0), OUTSIDE, 0);
            photograph("none of none from 1 on", by(2, 1, 1, 0), -13, 3);
        });
        t.test(13, "UNKNOWN; OUTSIDE: sort; FAULTS CAST, NULL, SIZE, INDEX; OUTSIDE: n, a TURN: in this order", () -> {
            photograph("unknown and sort, size", by(4, 3, -1, -1), UNKNOWN, 0);
            photograph("sort of nothing", by(3, 3, -1, -1), OUTSIDE, 0);
            photograph("sort and size", by(1, 3, 0, -1), OUTSIDE, 0);
            photograph("cast and size, index", by(1, 0, -1, -1), -12, 2);
            photograph("cast and n", by(1, 0, 0, 6), -12, 2);
            photograph("null and size, index", by(3, 2, -1, -1), -11, 1);
            photograph("null and n", by(3, 2, 0, 6), -11, 1);
            photograph("size and index", by(1, 2, -1, -1), -14, 4);
            photograph("size and index behind", by(1, 2, 11, -5), -14, 4);
            photograph("index and n", by(1, 2, 9, 2), -13, 3);
            photograph("index and a turn", by(1, 2, 2, 10), -13, 3);
            Counted x = new Counted();
            Due.row(x, 0, 0, 0, 0, 0, 0, 0);
            t.due("n and a turn", x.photograph(0, 2, 0, 6), OUTSIDE);
            t.due("a turn", x.photograph(0, 2, 0, 5), OUTSIDE);
            t.due("many(2)", x.many(2), 0);
        });
    }

    // ---- promise 14

    private static void photo(Counted x, int... cells) {
        Due.row(x, 0, cells);
        t.due("photograph", x.photograph(0, 2, 0, cells.length), cells.length / 5);
    }

    private static void taken() {
        t.test(14, "STATE: there is no PHOTOGRAPH", () -> {
            Counted x = of(Due.all(1, 1, 'm'));
            x.sheet(0, 0, 10);
            t.due("a refused one is none", x.photograph(0, 0, 0, 5), OUTSIDE);
            t.due("none", x.taken(0), STATE);
            photo(x, 1, 0, 2, 60, 60);
            t.due("one", x.taken(0), 3);
            t.refused("taken", () -> of(Due.all(1, 1, 'm')), y -> y.taken(0), STATE, Cases.STAYS);
        });
        t.test(14, "UNKNOWN; STATE: in this order", () -> {
            for (int h : new int[] {-1, 0, 3, LEAST, MOST}) t.refused("taken of " + h, Recipes.NEW, x -> x.taken(h), UNKNOWN, Cases.STAYS);
            for (int h : new int[] {-1, 2, 3, LEAST, MOST}) t.refused("taken of " + h, Recipes.SOME, x -> x.taken(h), UNKNOWN, Cases.STAYS);
            t.refused("taken of 3", Recipes.FULL, x -> x.taken(3), UNKNOWN, Cases.STAYS);
        });
        t.test(14, "TAKEN as a set: none, one, all, bit 23", () -> {
            Counted x = of(Due.all(4, 3, 'm'));
            photo(x, 1, 0, 2, 60, 60);
            t.due("all", x.taken(0), 16777215);
            photo(x, 1, 0, 2, 60, 59);
            t.due("none", x.taken(0), 0);
            x.pane(0, 38, 2);
            photo(x, 1, 0, 1, 1, 0);
            t.due("23", x.taken(0), 1 << 23);
            photo(x, -1, 0, 1, 2, 1);
            t.due("23, back by 1, 2", x.taken(0), 0);
            photo(x, -1, 0, 2, 60, 60);
            t.due("those that never come to side 38", x.taken(0), (1 << 23) - 1);
        });
        t.test(14, "ROOMS from which all are so: not if the first, one in the midst, or the last row is not", () -> {
            for (int row = 0; row < 6; row++) {
                for (int cell = 2; cell < 5; cell++) {
                    Counted x = of(Due.all(1, 1, 'm'));
                    int[] rows = six(1, 0, 2, 60, 60);
                    rows[5 * row + cell]--;
                    photo(x, rows);
                    t.due("row " + row + " cell " + cell, x.taken(0), 0);
                }
            }
        });
        t.test(14, "A PHOTOGRAPH: for 60 CROSSINGS: OUT by the 60th", () -> {
            Counted x = of("w1h1;oommm");
            photo(x, -31, 60, 1, 60, 30);
            t.due("from room 1", x.taken(0), 2);
            photo(x, -31, 60, 2, 60, 30);
            t.due("not yet: no", x.taken(0), 0);
        });
        t.test(14, "A PHOTOGRAPH: for 60 CROSSINGS: by the 61st it would be OUT", () -> {
            Counted x = of("w2h1;oommommmm");
            t.due("out by 61", x.seen(0, 0, -26, 56, 61, 0), OUT);
            photo(x, -26, 56, 1, 61, 30);
            t.due("none", x.taken(0), 0);
            photo(x, -26, 56, 2, 60, 30);
            t.due("not yet, behind 60: room 0 at least", x.taken(0) & 1, 1);
        });
        t.test(14, "A PHOTOGRAPH: a POST behind 60 CROSSINGS", () -> {
            Counted x = of(Due.all(1, 1, 'm'));
            t.due("61, then a post", x.seen(0, 0, -47, 1, 200, 1), 61);
            photo(x, -47, 1, 0, 61, 61);
            t.due("none", x.taken(0) & 1, 0);
            photo(x, -47, 1, 2, 60, 60);
            t.due("not yet", x.taken(0) & 1, 1);
        });
        t.test(14, "TAKEN in a HOUSE as it is now, of each HOUSE", () -> {
            Counted x = of(Due.all(1, 1, 'm'));
            Due.build(x, Due.all(2, 1, 'm'));
            photo(x, -1, 0, 1, 1, 0);
            t.due("no way out", x.taken(0), 0);
            x.pane(0, 1, 1);
            t.due("by side 1", x.taken(0), 1);
            t.due("not in the other", x.taken(1), 0);
            x.pane(1, 1, 2);
            t.due("in the other", x.taken(1), 1);
        });
    }
}
