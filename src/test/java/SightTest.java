/** Promises 7 to 14: seen, met, image, images, report, spots, photograph, taken. */
public final class SightTest {
    private static final Due d = new Due();

    public static void main(String[] args) {
        ends();
        folds();
        refusalsOfSight();
        images();
        reports();
        spotsAsTheHouseIsNow();
        photographs();
        refusalsOfPhotograph();
        d.end();
    }

    private static Counted of(String text) {
        Counted x = new Counted();
        d.due("house " + text, Due.build(x, text), 0);
        return x;
    }

    private static void seen(Counted x, int room, int[] turn, int n, int... want) {
        for (int what = 0; what < 4; what++) {
            d.due("seen from " + room + " by " + turn[0] + ", " + turn[1] + " for " + n + ": " + what,
                x.seen(0, room, turn[0], turn[1], n, what), want[what]);
        }
    }

    private static int[] by(int p, int q) {
        return new int[] {p, q};
    }

    private static void ends() {
        Counted open = of(Due.all(1, 1, 'o'));
        seen(open, 0, by(-1, 0), 5, 1, 1, 0, 0);
        seen(open, 0, by(1, 0), 5, 1, 2, 0, 1);
        seen(open, 0, by(1, 0), 2, 1, 2, 0, 1);
        seen(open, 0, by(1, 0), 1, 2, 1, 0, 1);
        seen(open, 0, by(-1, -1), 5, 0, 0, 0, 0);
        seen(open, 0, by(2, -1), 5, 0, 0, 0, 0);
        seen(open, 0, by(-1, 2), 5, 0, 0, 0, 0);
        seen(open, 1, by(1, 1), 5, 0, 0, 0, 1);
        seen(open, 1, by(1, -2), 5, 0, 0, 0, 1);
        // over one side and then to a post: behind n crossings it has not ended yet
        seen(open, 0, by(1, 1), 1, 2, 1, 0, 1);
        seen(open, 0, by(1, 1), 2, 0, 1, 0, 1);
        // a post ends it, though all sides there are mirrors; the length of a turn is no matter
        Counted shut = of(Due.all(1, 1, 'm'));
        seen(shut, 0, by(1, 1), 200, 0, 1, 1, 0);
        seen(shut, 0, by(60, 60), 200, 0, 1, 1, 0);
        seen(shut, 0, by(1, -2), 1, 2, 1, 1, 0);
        seen(shut, 0, by(1, -2), 2, 0, 1, 1, 0);
        seen(shut, 0, by(1, 0), 200, 2, 200, 200, 0);
        seen(shut, 1, by(-1, 0), 37, 2, 37, 37, 1);
        // glass is as open for sight, smeared or not
        Counted glass = of(Due.all(1, 1, 'g'));
        seen(glass, 0, by(1, 0), 5, 1, 2, 0, 1);
        glass.walker(1, 0, 0, 1);
        glass.ticks(0, 3);
        d.due("all smeared", glass.ofHouse(0, 7), 3);
        seen(glass, 0, by(1, 0), 5, 1, 2, 0, 1);
    }

    private static void folds() {
        // room 0 over its mirror of way 1: behind it the ways 0 and 2 have changed places
        Counted x = of("w1h1;ommmm");
        d.due("first", x.met(0, 0, -3, 1, 0), 1);
        d.due("second: way 2 of the plane is way 0 of the room", x.met(0, 0, -3, 1, 1), 2);
        seen(x, 0, by(-3, 1), 2, 2, 2, 2, 0);
        // over its mirror of way 0: 1 and 2 have
        d.due("first", x.met(0, 0, 1, -3, 0), 2);
        d.due("second", x.met(0, 0, 1, -3, 1), 1);
        // a second room over way 1
        Counted y = of("w1h1;mgmmo");
        d.due("first", y.met(0, 1, 3, -1, 0), 3);
        d.due("second: way 2 of the plane is way 0 of the room", y.met(0, 1, 3, -1, 1), 4);
        seen(y, 1, by(3, -1), 5, 1, 2, 1, 1);
        // over way 2: 0 and 1 have
        Counted z = of("w1h1;mgomm");
        d.due("first", z.met(0, 0, 3, 1, 0), 0);
        d.due("second: way 1 of the plane is way 0 of the room", z.met(0, 0, 3, 1, 1), 2);
        d.due("it is out there", z.met(0, 0, 3, 1, 2), -9);
        seen(z, 0, by(3, 1), 5, 1, 2, 1, 0);
        Counted shut = of(Due.all(1, 1, 'm'));
        d.due("the 200th", shut.met(0, 0, 1, 0, 199), 2);
        d.due("the 199th", shut.met(0, 0, 1, 0, 198), 0);
        d.due("the 201st", shut.met(0, 0, 1, 0, 200), -9);
        d.due("far on", shut.met(0, 0, 1, 0, Integer.MAX_VALUE), -9);
        d.due("behind a post", shut.met(0, 0, 1, 1, 1), -9);
        d.due("ahead of a post", shut.met(0, 0, 1, 1, 0), 0);
        d.due("no side ahead of the post", shut.met(0, 0, -1, -1, 0), -9);
        d.due("the border by which it is out", of(Due.all(2, 1, 'o')).met(0, 0, 1, 0, 3), 6);
    }

    private static void refusalsOfSight() {
        Counted x = of(Due.all(2, 1, 'o'));
        for (int[] room : new int[][] {{0, 4}, {0, -1}, {1, 0}, {-1, 0}}) {
            d.due("seen", x.seen(room[0], room[1], 0, 0, 0, 9), -1);
            d.due("met", x.met(room[0], room[1], 0, 0, -1), -1);
            d.due("image", x.image(room[0], room[1], 0, 0), -1);
            d.due("images", x.images(room[0], room[1], 0, 0, 9), -1);
            d.due("images of it", x.images(room[0], 0, room[1] == 0 ? 9 : room[1], 0, 9), -1);
            d.due("report", x.report(room[0], room[1], 0, 0, true), -1);
        }
        for (int[] t : new int[][] {{0, 0}, {61, 0}, {-61, 0}, {0, 61}, {0, -61}, {Integer.MIN_VALUE, 3}}) {
            d.due("seen", x.seen(0, 0, t[0], t[1], 5, 0), -2);
            d.due("met", x.met(0, 0, t[0], t[1], 0), -2);
            d.due("met, far on", x.met(0, 0, t[0], t[1], 500), -2);
            d.due("image", x.image(0, 0, t[0], t[1]), -2);
            d.due("report", x.report(0, 0, t[0], t[1], true), -2);
        }
        d.due("n 0", x.seen(0, 0, 1, 0, 0, 0), -2);
        d.due("n 201", x.seen(0, 0, 1, 0, 201, 0), -2);
        d.due("n 200", x.seen(0, 0, 1, 0, 200, 0), 1);
        d.due("what 4", x.seen(0, 0, 1, 0, 1, 4), -2);
        d.due("what -1", x.seen(0, 0, 1, 0, 1, -1), -2);
        d.due("k -1", x.met(0, 0, 1, 0, -1), -2);
        d.due("turn 60", x.seen(0, 0, 60, -60, 1, 0), 1);
        d.due("g 0", x.images(0, 0, 0, 0, 0), -2);
        d.due("g 25", x.images(0, 0, 0, 25, 0), -2);
        d.due("what 3", x.images(0, 0, 0, 1, 3), -2);
        d.due("what -1", x.images(0, 0, 0, 1, -1), -2);
        d.due("reports refused", x.many(1), 0);
    }

    private static void images() {
        Counted open = of(Due.all(1, 1, 'o'));
        d.due("over the side", open.image(0, 0, 1, 1), 1);
        d.due("and back", open.image(0, 1, -1, -1), 0);
        d.due("out ahead", open.image(0, 0, 3, 0), -9);
        d.due("none behind a border", open.image(0, 0, -2, 1), -9);
        Counted shut = of(Due.all(1, 1, 'm'));
        d.due("me", shut.image(0, 0, 1, 1), 0);
        d.due("me again", shut.image(0, 0, 1, -2), 0);
        d.due("me, far away", shut.image(0, 0, 60, 0), 0);
        d.due("a post is no middle", shut.image(0, 0, 2, 2), -9);
        d.due("on a line is no middle", shut.image(0, 0, 2, 0), -9);
        d.due("a third and two are no middle", shut.image(0, 0, 1, 0), -9);
        d.due("a post ahead", shut.image(0, 0, -2, -2), -9);
        d.due("how many within 1", shut.images(0, 0, 0, 1, 0), 1);
        d.due("the nearest p", shut.images(0, 0, 0, 1, 1), 1);
        d.due("the nearest q", shut.images(0, 0, 0, 1, 2), 1);
        d.due("how many within 2", shut.images(0, 0, 0, 2, 0), 3);
        d.due("of several the least p", shut.images(0, 0, 0, 2, 1), -2);
        d.due("its q", shut.images(0, 0, 0, 2, 2), 1);
        d.due("none of the other one", shut.images(0, 0, 1, 24, 0), 0);
        d.due("no p", shut.images(0, 0, 1, 24, 1), -9);
        d.due("no q", shut.images(0, 0, 1, 24, 2), -9);
        d.due("none of itself", open.images(0, 0, 0, 24, 0), 0);
        d.due("one of the other", open.images(0, 0, 1, 24, 0), 1);
        d.due("a turn below 0", open.images(0, 1, 0, 1, 1), -1);
        // two as near, with the same p: in a house of 2 by 2 room 0 has room 3 and 5 at (4, 1), (1, 4); the least p
        Counted wide = of(Due.all(2, 2, 'o'));
        d.due("4, 1", wide.image(0, 0, 4, 1), 3);
        d.due("p of 3", wide.images(0, 0, 3, 4, 1), 4);
        d.due("q of 3", wide.images(0, 0, 3, 4, 2), 1);
        d.due("not within 3", wide.images(0, 0, 3, 3, 0), 0);
        Counted far = of(Due.all(4, 3, 'o'));
        d.due("60 is farther than any", far.image(0, 0, 9, 6), 22);
        d.due("a turn through posts", far.image(0, 0, 7, 7), -9);
    }

    private static void reports() {
        Counted x = of(Due.all(2, 2, 'o'));
        Due.build(x, Due.all(1, 1, 'o'));
        d.due("no reports: all fit", x.spots(0), 255);
        d.due("all of the other", x.spots(1), 3);
        d.due("saw none there", x.report(0, 0, 1, 1, false), 0);
        d.due("not 1", x.spots(0), 253);
        d.due("saw none where no middle is", x.report(0, 0, 2, 2, false), 1);
        d.due("as ahead", x.spots(0), 253);
        d.due("saw", x.report(0, 0, 4, 1, true), 2);
        d.due("3", x.spots(0), 8);
        d.due("saw the same from elsewhere", x.report(0, 2, 1, 1, true), 3);
        d.due("3 still", x.spots(0), 8);
        d.due("the other house has no reports", x.spots(1), 3);
        d.due("saw another one", x.report(1, 0, 1, 1, true), 4);
        d.due("of the other", x.spots(1), 2);
        d.due("3 still", x.spots(0), 8);
        d.due("not seen there at all", x.report(1, 1, -1, -1, true), 5);
        d.due("none fits", x.spots(1), 0);
        d.due("it saw where there is none", x.report(0, 0, 3, 3, true), 6);
        d.due("none fits", x.spots(0), 0);
        for (int k = 7; k < 12; k++) d.due("report", x.report(1, 0, 1, 0, true), k);
        d.due("full", x.report(1, 0, 1, 0, true), -4);
        d.due("full, of the other house too", x.report(0, 0, 1, 0, true), -4);
        d.due("outside ahead of full", x.report(0, 0, 0, 0, true), -2);
        d.due("unknown ahead of full", x.report(0, 8, 0, 0, true), -1);
        d.due("many", x.many(1), 12);
        d.due("house 2", x.spots(2), -1);
        d.due("house -1", x.spots(-1), -1);
        Counted all = of(Due.all(4, 3, 'm'));
        d.due("24 rooms", all.spots(0), (1 << 24) - 1);
    }

    private static void spotsAsTheHouseIsNow() {
        Counted x = of(Due.all(1, 1, 'o'));
        x.report(0, 0, 1, 1, true);
        d.due("behind it", x.spots(0), 2);
        x.pane(0, 0, 0);
        d.due("it is a mirror now", x.spots(0), 1);
    }

    private static void photographs() {
        Counted x = of(Due.all(2, 1, 'o'));
        d.due("none yet", x.taken(0), -3);
        d.due("unknown ahead of state", x.taken(1), -1);
        Due.row(x, 0, 1, 0, 1, 2, 0, -1, 0, 1, 3, 0);
        d.due("one row", x.photograph(0, 2, 0, 5), 1);
        d.due("many rows", x.many(2), 1);
        d.due("out by 2 crossings: room 2", x.taken(0), 4);
        d.due("two rows", x.photograph(0, 2, 0, 10), 2);
        d.due("back by 3, too", x.taken(0), 4);
        x.put(0, 8, 4);
        d.due("the photograph is as it was", x.taken(0), 4);
        x.put(0, 8, 3);
        d.due("the second row", x.photograph(0, 2, 5, 5), 1);
        d.due("back by 3", x.taken(0), 4);
        Due.row(x, 0, 1, 0, 2, 60, 30);
        d.due("not yet, behind 60", x.photograph(0, 2, 0, 5), 1);
        Due.build(x, Due.all(1, 1, 'm'));
        d.due("30 mirrors of 60", x.taken(1), 0);
        x.put(0, 4, 60);
        d.due("60 mirrors", x.photograph(0, 2, 0, 5), 1);
        d.due("both", x.taken(1), 3);
        d.due("not from a wide one", x.taken(0), 0);
        Due.row(x, 0, -1, -1, 0, 0, 0);
        x.photograph(0, 2, 0, 5);
        d.due("at a post at once", x.taken(1), 1);
        int[] six = new int[30];
        for (int r = 0; r < 30; r += 5) System.arraycopy(new int[] {1, 0, 2, 60, 60}, 0, six, r, 5);
        Due.row(x, 1, six);
        d.due("six rows", x.photograph(1, 2, 0, 30), 6);
        d.due("both", x.taken(1), 3);
        x.put(1, 29, 59);
        d.due("six rows", x.photograph(1, 2, 0, 30), 6);
        d.due("the last is not so", x.taken(1), 0);
        x.sheet(2, 0, 5);
        x.put(2, 0, -1);
        x.put(2, 2, 1);
        x.put(2, 3, 1);
        d.due("of bytes", x.photograph(2, 0, 0, 5), 1);
        d.due("room 0 is by the border", x.taken(0), 1);
    }

    private static void refusalsOfPhotograph() {
        Counted x = of(Due.all(1, 1, 'o'));
        d.due("sheet 4", x.photograph(4, 3, 0, 5), -1);
        d.due("sheet -1", x.photograph(-1, 3, 0, 5), -1);
        d.due("sort 3", x.photograph(0, 3, 0, 5), -2);
        d.due("sort -1", x.photograph(0, -1, 0, 5), -2);
        d.due("nothing", x.photograph(0, 2, -1, -5), -11);
        d.due("fault", x.fault(), 1);
        int[] row = new int[40];
        for (int k = 0; k < 40; k++) row[k] = 1;
        Due.row(x, 0, row);
        d.due("cast", x.photograph(0, 1, -1, -5), -12);
        d.due("fault", x.fault(), 2);
        d.due("size", x.photograph(0, 2, -1, -5), -14);
        d.due("fault", x.fault(), 4);
        d.due("index", x.photograph(0, 2, 38, 3), -13);
        d.due("fault", x.fault(), 3);
        d.due("index 41 for none", x.photograph(0, 2, 41, 0), -13);
        for (int n = 0; n <= 40; n++) {
            boolean rows = n % 5 == 0 && n >= 5 && n <= 30;
            d.due("n " + n, x.photograph(0, 2, 0, n), rows ? n / 5 : -2);
            d.due("fault", x.fault(), 0);
        }
        d.due("the latest stands", x.many(2), 6);
        x.put(0, 5, 61);
        d.due("a turn in the second row", x.photograph(0, 2, 0, 10), -2);
        d.due("not in the first", x.photograph(0, 2, 0, 5), 1);
        x.put(0, 5, 0);
        x.put(0, 6, 0);
        d.due("no turn", x.photograph(0, 2, 0, 10), -2);
        x.put(0, 6, -61);
        d.due("no turn", x.photograph(0, 2, 0, 10), -2);
        x.put(0, 6, -60);
        x.put(0, 7, 12345);
        d.due("any numbers behind a turn", x.photograph(0, 2, 0, 10), 2);
        d.due("taken from none", x.taken(0), 0);
        d.due("house -1", x.taken(-1), -1);
    }
}
