/** Promises 18 to 23: shut, far, opened, keeps, changed, change. */
public final class WaysOutTest {
    private static final Due d = new Due();

    public static void main(String[] args) {
        shutAndFar();
        opened();
        keeps();
        keepsThoseThatDoNotCount();
        refusalsOfKeeps();
        changed();
        rowsThatAreNotAll();
        refusalsOfChanged();
        d.end();
    }

    private static Counted of(String text) {
        Counted x = new Counted();
        d.due("house " + text, Due.build(x, text), 0);
        return x;
    }

    private static void shutAndFar() {
        Counted open = of(Due.all(4, 3, 'o'));
        d.due("fair", open.shut(0), -9);
        d.due("by the border", open.far(0, 0), 1);
        d.due("over one", open.far(0, 1), 2);
        d.due("in the midst", open.far(0, 10), 3);
        d.due("in the midst", open.far(0, 11), 3);
        Counted shut = of(Due.all(4, 3, 'g'));
        d.due("shut, the first", shut.shut(0), 0);
        d.due("none", shut.far(0, 0), -9);
        // a way through all the 4: in from room 7 to room 0
        Counted way = of("w4h1;omm" + "oom" + "oom" + "oom" + "o" + "mmmm");
        d.due("fair", way.shut(0), -9);
        for (int room = 0; room < 8; room++) d.due("far of " + room, way.far(0, room), 8 - room);
        way.pane(0, 4, 1);
        d.due("glass is no way", way.shut(0), 0);
        d.due("behind it none", way.far(0, 1), -9);
        d.due("ahead of it", way.far(0, 2), 6);
        way.pane(0, 1, 2);
        d.due("another way out", way.shut(0), -9);
        d.due("far at once behind a change", way.far(0, 0), 1);
        way.pane(0, 6, 0);
        d.due("far at once behind a change", way.far(0, 3), -9);
        d.due("room 2 is shut in", way.shut(0), 2);
        d.due("from 3 there is none", way.far(0, 3), -9);
        d.due("from 4 there is none", way.far(0, 4), -9);
        d.due("room 5", way.far(0, 5), 3);
        d.due("shut of house 1", way.shut(1), -1);
        d.due("shut of house -1", way.shut(-1), -1);
        d.due("far of house 1", way.far(1, 0), -1);
        d.due("far of room 8", way.far(0, 8), -1);
        d.due("far of room -1", way.far(0, -1), -1);
        Counted longest = of("w4h3;" + "ooo".repeat(12) + "ooooooo");
        for (int k = 0; k < 43; k++) longest.pane(0, k, 0);
        // one way through all 24 rooms: along y 0, back along y 1, along y 2
        for (int c = 0; c < 12; c++) longest.pane(0, 3 * c, 2);
        for (int y = 0; y < 3; y++) for (int x = 1; x < 4; x++) longest.pane(0, 3 * (4 * y + x) + 1, 2);
        longest.pane(0, longest.side(0, 7, 0), 2);
        longest.pane(0, longest.side(0, 9, 0), 2);
        longest.pane(0, longest.side(0, 23, 1), 2);
        d.due("fair", longest.shut(0), -9);
        d.due("a long way", longest.far(0, 0), 22);
        d.due("a long way", longest.far(0, 8), 10);
    }

    private static void opened() {
        Counted way = of("w4h1;omm" + "oom" + "oom" + "oom" + "o" + "mmmm");
        for (int far = 1; far <= 30; far++) {
            if (far >= 8) {
                d.due("none needed for " + far, way.opened(0, far, -1), 0);
                d.due("no first", way.opened(0, far, 0), -9);
                d.due("no second", way.opened(0, far, 1), -9);
            }
        }
        d.due("one for 7", way.opened(0, 7, -1), 1);
        d.due("the first that does", way.opened(0, 7, 0), 1);
        d.due("no second", way.opened(0, 7, 1), -9);
        d.due("one for 4", way.opened(0, 4, -1), 1);
        d.due("it halves the way", way.opened(0, 4, 0), 1);
        d.due("one for 3", way.opened(0, 3, -1), 1);
        d.due("by room 2, in the midst of the first five", way.opened(0, 3, 0), 5);
        d.due("no second", way.opened(0, 3, 1), -9);
        d.due("two for 2", way.opened(0, 2, -1), 2);
        d.due("by room 4", way.opened(0, 2, 0), 8);
        d.due("by room 1", way.opened(0, 2, 1), 13);
        d.due("more than two for 1", way.opened(0, 1, -1), -9);
        d.due("no first", way.opened(0, 1, 0), -9);
        d.due("no second", way.opened(0, 1, 1), -9);
        d.due("no second behind two", way.opened(0, 7, 1), -9);
        d.due("no first behind two", way.opened(0, 8, 0), -9);
        d.due("nothing has been opened", way.ofHouse(0, 6), 8);
        Counted shut = of("w1h1;mgggm");
        d.due("two for 2", shut.opened(0, 2, -1), 2);
        d.due("a side that is not a border", shut.opened(0, 2, 0), 0);
        d.due("and a border", shut.opened(0, 2, 1), 1);
        d.due("two for 1", shut.opened(0, 1, -1), 2);
        d.due("the first", shut.opened(0, 1, 0), 1);
        d.due("one of the other room", shut.opened(0, 1, 1), 3);
        d.due("house 1", shut.opened(1, 0, 0), -1);
        d.due("k 2", shut.opened(0, 0, 2), -1);
        d.due("k -2", shut.opened(0, 0, -2), -1);
        d.due("d 0", shut.opened(0, 0, -1), -2);
        d.due("d 31", shut.opened(0, 31, 1), -2);
        d.due("d 30", shut.opened(0, 30, -1), 2);
    }

    private static int keeps(Counted x, int room, int way, int what, int... sides) {
        Due.row(x, 0, sides);
        return x.keeps(0, room, way, 0, 2, 0, sides.length, what);
    }

    private static void keeps() {
        // room 0 that came by 0 goes by 1, 2, 0
        Counted x = of("w1h1;omomo");
        d.due("by 2 then out: its way 1 is glass", keeps(x, 0, 0, 0, 1), 2);
        d.due("that is 0", keeps(x, 0, 0, 1, 1), 0);
        d.due("with side 0 glass it is out by way 0", keeps(x, 0, 0, 0, 0), 2);
        d.due("side 0 open, bit 0", keeps(x, 0, 0, 1, 0), 1);
        d.due("two", keeps(x, 0, 0, 0, 1, 0), 2);
        d.due("the second is open, bit 1", keeps(x, 0, 0, 1, 1, 0), 2);
        d.due("side 3, of no matter: the least", keeps(x, 0, 1, 1, 3), 0);
        d.due("fair only if open", keeps(x, 0, 0, 1, 2, 4), 1);
        d.due("two ticks", keeps(x, 0, 0, 0, 2, 4), 3);
        d.due("the house is as it was", x.ofHouse(0, 6), 3);
        d.due("its sides are", x.ofSide(0, 1, 0), 0);
        d.due("none smeared", x.ofHouse(0, 7), 0);
        Counted shut = of(Due.all(1, 1, 'm'));
        d.due("room 1 cannot be out", keeps(shut, 0, 0, 0, 1, 2), -9);
        d.due("no way", keeps(shut, 0, 0, 1, 1, 2), -9);
        d.due("all but side 0", keeps(shut, 0, 0, 0, 1, 2, 3, 4), 1);
        d.due("one of each: the least", keeps(shut, 0, 0, 1, 1, 2, 3, 4), 5);
    }

    private static void keepsThoseThatDoNotCount() {
        // fair only with side 0 open; then a blind one in room 1 that came by 1 goes round for ever
        Counted x = of(Due.with(Due.all(2, 2, 'm'), 'o', 1, 3, 4, 6, 8, 9, 10, 11));
        for (int[] start : new int[][] {{1, 1}, {2, 0}, {2, 2}}) {
            d.due("it is never out", keeps(x, start[0], start[1], 0, 0), -9);
            d.due("no number", keeps(x, start[0], start[1], 1, 0), -9);
        }
        x.pane(0, 0, 2);
        d.due("fair", x.shut(0), -9);
        x.walker(0, 0, 1, 1);
        d.due("a walker goes round, too", x.ticks(0, 200), 1);
        d.due("in all ticks", x.ofWalker(0, 4), 200);
        d.due("from room 0 it is out", keeps(x, 0, 0, 0, 0), 1);
        d.due("side 0 is open", keeps(x, 0, 0, 1, 0), 1);
        // a way of 8 rooms, to and fro: the glass ahead of the near border makes it go the long way
        Counted way = of("w4h1;oom" + "oom" + "oom" + "oom" + "o" + "mmmm");
        d.due("out at once", keeps(way, 0, 0, 0, 12), 1);
        d.due("through all", keeps(way, 0, 0, 0, 1), 8);
        d.due("one of the two must be open", keeps(way, 0, 0, 1, 1, 12), 2);
        d.due("the way on is not taken", keeps(way, 0, 2, 0, 1), 8);
    }

    private static void refusalsOfKeeps() {
        Counted x = of(Due.all(1, 1, 'o'));
        d.due("sheet 4", x.keeps(0, 0, 0, 4, 0, 0, 1, 0), -1);
        d.due("sheet -1", x.keeps(0, 0, 3, -1, 3, 0, 1, 2), -1);
        d.due("house 1", x.keeps(1, 0, 3, 0, 3, 0, 1, 2), -1);
        d.due("room 2", x.keeps(0, 2, 3, 0, 3, 0, 1, 2), -1);
        d.due("room -1", x.keeps(0, -1, 3, 0, 3, 0, 1, 2), -1);
        d.due("sort 3", x.keeps(0, 0, 0, 0, 3, 0, 1, 0), -2);
        d.due("sort -1", x.keeps(0, 0, 0, 0, -1, 0, 1, 0), -2);
        d.due("way 3", x.keeps(0, 0, 3, 0, 0, 0, 1, 0), -2);
        d.due("way -1", x.keeps(0, 0, -1, 0, 0, 0, 1, 0), -2);
        d.due("what 2", x.keeps(0, 0, 0, 0, 0, 0, 1, 2), -2);
        d.due("what -1", x.keeps(0, 0, 0, 0, 0, 0, 1, -1), -2);
        d.due("nothing", x.keeps(0, 0, 0, 0, 0, -1, -1, 0), -11);
        d.due("fault", x.fault(), 1);
        Due.row(x, 0, 0, 1, 2, 3, 4, 5, 6, 7, 8, 9);
        d.due("cast", x.keeps(0, 0, 0, 0, 0, -1, -1, 0), -12);
        d.due("fault", x.fault(), 2);
        d.due("size", x.keeps(0, 0, 0, 0, 2, -1, -1, 0), -14);
        d.due("fault", x.fault(), 4);
        d.due("index", x.keeps(0, 0, 0, 0, 2, 0, 11, 0), -13);
        d.due("fault", x.fault(), 3);
        d.due("index 11 for none", x.keeps(0, 0, 0, 0, 2, 11, 0, 0), -13);
        d.due("n 0", x.keeps(0, 0, 0, 0, 2, 0, 0, 0), -2);
        d.due("fault", x.fault(), 0);
        d.due("n 9, ahead of the sides", x.keeps(0, 0, 0, 0, 2, 0, 9, 0), -2);
        d.due("n 8, side 5", x.keeps(0, 0, 0, 0, 2, 0, 8, 0), -1);
        d.due("n 5: to room 1 and back", x.keeps(0, 0, 0, 0, 2, 0, 5, 0), 3);
        Due.row(x, 0, 1, 1, 5, -1, 4, 3, 1);
        d.due("twice, and no side: unknown first", x.keeps(0, 0, 0, 0, 2, 0, 3, 0), -1);
        d.due("side -1", x.keeps(0, 0, 0, 0, 2, 3, 1, 0), -1);
        d.due("twice", x.keeps(0, 0, 0, 0, 2, 0, 2, 0), -2);
        d.due("what is not told is no matter", x.keeps(0, 0, 0, 0, 2, 4, 3, 0) > 0 ? 1 : 0, 1);
        Due.row(x, 0, 1, 2, 3, 1);
        d.due("the first and the last", x.keeps(0, 0, 0, 0, 2, 0, 4, 0), -2);
        x.keeps(0, 0, 0, 0, 2, 0, 5, 0);
        d.due("fault", x.fault(), 3);
        x.keeps(0, 0, 3, 0, 2, 0, 5, 0);
        d.due("fault of a refused one", x.fault(), 0);
    }

    private static void changed() {
        // ten sides of no matter: all rows
        Counted x = of("w2h2;" + "ooo".repeat(4) + "oooo");
        String other = Due.with(Due.all(2, 2, 'o'), 'g', 1, 2, 4);
        d.due("another", Due.build(x, other), 1);
        d.due("3 sides", x.changed(0, 1), 6);
        d.due("back", x.changed(1, 0), 6);
        d.due("first", x.change(0, 1, 0), 1);
        d.due("second", x.change(0, 1, 1), 2);
        d.due("third", x.change(0, 1, 2), 4);
        d.due("no fourth", x.change(0, 1, 3), -9);
        d.due("tenth", x.change(0, 1, 9), -9);
        d.due("nothing was changed", x.ofHouse(0, 6), 16);
        d.due("a third house, alike", Due.build(x, other), 2);
        d.due("one row, empty", x.changed(1, 2), 1);
        d.due("no first", x.change(1, 2, 0), -9);
        Counted y = of("w4h3;" + "o".repeat(43));
        d.due("the other", Due.build(y, Due.with(Due.all(4, 3, 'o'), 'm', 0, 3, 6, 9, 12, 15, 18, 21, 24, 27)), 1);
        d.due("10 sides", y.changed(0, 1), 3628800);
        for (int k = 0; k < 10; k++) d.due("side", y.change(0, 1, k), 3 * k);
        y.pane(1, 42, 1);
        d.due("11 sides", y.changed(0, 1), MirrorHouse.LOST);
        d.due("11 sides", y.change(0, 1, 0), -3);
        y.pane(0, 42, 1);
        d.due("10 again, one of glass by glass", y.changed(0, 1), 3628800);
        Counted shut = of(Due.all(1, 1, 'm'));
        Due.build(shut, Due.all(1, 1, 'm'));
        d.due("alike and not fair: no row", shut.changed(0, 1), 0);
        d.due("no first", shut.change(0, 1, 0), -9);
        Due.build(shut, Due.all(1, 1, 'o'));
        d.due("not fair ahead", shut.changed(0, 2), 0);
        d.due("not fair behind", shut.changed(2, 0), 0);
        d.due("no first", shut.change(2, 0, 0), -9);
        // smears are no difference
        Counted s = of("w1h1;ogogo");
        Due.build(s, "w1h1;ogogo");
        s.walker(1, 0, 0, 0);
        s.ticks(0, 1);
        d.due("smeared", s.ofSide(0, 1, 4), 1);
        d.due("alike", s.changed(0, 1), 1);
    }

    private static void rowsThatAreNotAll() {
        // room 0 out by side 1, then by side 2; room 1 out by side 3: 2 must be open ahead of 1 being shut
        Counted x = of("w1h1;moggo");
        d.due("the other", Due.build(x, "w1h1;mmogo"), 1);
        d.due("one row", x.changed(0, 1), 1);
        d.due("2 first", x.change(0, 1, 0), 2);
        d.due("then 1", x.change(0, 1, 1), 1);
        d.due("back: 1 first", x.change(1, 0, 0), 1);
        d.due("then 2", x.change(1, 0, 1), 2);
        // and the same for room 1 at once: 6 of 24 rows
        Counted y = of("w1h1;mogog");
        d.due("the other", Due.build(y, "w1h1;mgogo"), 1);
        d.due("rows", y.changed(0, 1), 6);
        int[] first = {2, 1, 4, 3};
        for (int k = 0; k < 4; k++) d.due("side " + k, y.change(0, 1, k), first[k]);
        d.due("no fifth", y.change(0, 1, 4), -9);
    }

    private static void refusalsOfChanged() {
        Counted x = of(Due.all(2, 3, 'o'));
        Due.build(x, Due.all(3, 2, 'o'));
        Due.build(x, Due.all(2, 2, 'o'));
        long lost = MirrorHouse.LOST;
        d.due("house 3", x.changed(0, 3), lost);
        d.due("house -1", x.changed(-1, 0), lost);
        d.due("the same", x.changed(1, 1), lost);
        d.due("unlike in W and H, as many rooms", x.changed(0, 1), lost);
        d.due("unlike in H", x.changed(0, 2), lost);
        d.due("unlike in W", x.changed(1, 2), lost);
        d.due("house 3", x.change(0, 3, 0), -1);
        d.due("no house twice", x.change(3, 3, 0), -1);
        d.due("house -1", x.change(-1, 0, 0), -1);
        d.due("k 10, the same", x.change(0, 0, 10), -1);
        d.due("k -1, unlike", x.change(0, 1, -1), -1);
        d.due("the same", x.change(1, 1, 0), -2);
        d.due("unlike in W and H", x.change(0, 1, 9), -3);
        d.due("unlike in H", x.change(0, 2, 0), -3);
        d.due("unlike in W", x.change(1, 2, 0), -3);
    }
}
