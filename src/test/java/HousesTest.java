/** Promises 1 to 6: a new object, house, ofHouse, ofSide, side, pane. */
public final class HousesTest {
    private static final Due d = new Due();

    public static void main(String[] args) {
        newObject();
        texts();
        firstFaults();
        faultsOfHouse();
        full();
        counts();
        layout();
        panes();
        d.end();
    }

    private static void newObject() {
        Counted x = new Counted();
        for (int what = 0; what <= 4; what++) d.due("many of new", x.many(what), 0);
        for (int k = 0; k < 4; k++) d.due("lose of new", x.lose(k), 0);
        d.due("taken of new", x.taken(0), -1);
        d.due("trace of new", x.trace(), 0);
        d.due("fault of new", x.fault(), 0);
        d.due("ofHouse of new", x.ofHouse(0, 0), -1);
        d.due("ofWalker of new", x.ofWalker(0, 0), -1);
        d.due("spots of new", x.spots(0), -1);
        Due.build(x, Due.all(1, 1, 'o'));
        d.due("taken without a photograph", x.taken(0), -3);
    }

    private static void texts() {
        for (int w = 1; w <= 4; w++) {
            for (int h = 1; h <= 3; h++) {
                Counted x = new Counted();
                String text = Due.all(w, h, 'g');
                d.due("house " + text, Due.build(x, text), 0);
                d.due("W", x.ofHouse(0, 0), w);
                d.due("H", x.ofHouse(0, 1), h);
                d.due("ROOMS", x.ofHouse(0, 2), 2 * w * h);
                d.due("SIDES", x.ofHouse(0, 3), 3 * w * h + w + h);
                d.due("GLASS", x.ofHouse(0, 5), 3 * w * h + w + h);
                d.due("longer", Due.build(x, text + "o"), -100 - text.length());
                d.due("shorter", Due.build(x, text.substring(0, text.length() - 1)), -100 - text.length() + 1);
                d.due("many", x.many(0), 1);
            }
        }
        Counted x = new Counted();
        Due.write(x, 0, "xx" + "w1h1;mgogm" + "yy");
        d.due("from the midst of a sheet", x.house(0, 0, 2, 10), 0);
        int[] kinds = {0, 1, 2, 1, 0};
        for (int k = 0; k < 5; k++) d.due("side " + k, x.ofSide(0, k, 0), kinds[k]);
        for (int sort = 1; sort <= 2; sort++) {
            x.sheet(1, sort, 10);
            for (int i = 0; i < 10; i++) x.put(1, i, "w1h1;ooooo".charAt(i));
            d.due("a text of sort " + sort, x.house(1, sort, 0, 10), sort);
        }
        x.sheet(1, 2, 10);
        for (int i = 0; i < 10; i++) x.put(1, i, "w1h1;ooooo".charAt(i) + (i == 7 ? 256 : 0));
        d.due("a code is the whole int", x.house(1, 2, 0, 10), -107);
    }

    private static void firstFaults() {
        Counted x = new Counted();
        String good = "w2h1;oommggoom";
        for (int i = 0; i <= good.length(); i++) {
            d.due("cut at " + i, Due.build(x, good.substring(0, i)), i < good.length() ? -100 - i : 0);
        }
        String bad = "W0H0:xMGO19whn";
        for (int i = 0; i < good.length(); i++) {
            String text = good.substring(0, i) + bad.charAt(i) + good.substring(i + 1);
            d.due("text " + text, Due.build(x, text), -100 - i);
            d.due("fault of " + text, x.fault(), 0);
        }
        d.due("w5", Due.build(x, "w5h1;"), -101);
        d.due("h4", Due.build(x, "w4h4;"), -103);
        d.due("w 0", Due.build(x, "w0"), -101);
        d.due("two faults: the first", Due.build(x, "w2x1;oommggooq"), -102);
        d.due("fault ahead of a short end", Due.build(x, "w2h1;oq"), -106);
        d.due("many", x.many(0), 1);
    }

    private static void faultsOfHouse() {
        Counted x = new Counted();
        d.due("no such sheet -1", x.house(-1, 9, 0, 0), -1);
        d.due("no such sheet 4", x.house(4, 0, 0, 0), -1);
        d.due("sort 3 of nothing", x.house(0, 3, 0, 0), -2);
        d.due("sort -1", x.house(0, -1, 0, 0), -2);
        d.due("nothing", x.house(0, 0, -1, -1), -11);
        d.due("fault", x.fault(), 1);
        Due.write(x, 0, Due.all(1, 1, 'o'));
        d.due("cast, ahead of size", x.house(0, 2, 0, -1), -12);
        d.due("fault", x.fault(), 2);
        d.due("size, ahead of index", x.house(0, 0, -1, -1), -14);
        d.due("fault", x.fault(), 4);
        d.due("index -1", x.house(0, 0, -1, 0), -13);
        d.due("fault", x.fault(), 3);
        d.due("index 11 for none", x.house(0, 0, 11, 0), -13);
        d.due("index 10 for none", x.house(0, 0, 10, 0), -100);
        d.due("fault", x.fault(), 0);
        d.due("one beyond", x.house(0, 0, 0, 11), -13);
        d.due("far beyond", x.house(0, 0, 1, Integer.MAX_VALUE), -13);
        d.due("as it must", x.house(0, 0, 0, 10), 0);
        d.due("fault", x.fault(), 0);
        d.due("index", x.house(0, 0, 1, 10), -13);
        d.due("refused", x.house(0, 4, 1, 10), -2);
        d.due("fault of a refused one", x.fault(), 0);
    }

    private static void full() {
        Counted x = new Counted();
        for (int h = 0; h < 3; h++) d.due("house " + h, Due.build(x, Due.all(h + 1, 1, 'm')), h);
        d.due("a fourth", Due.build(x, Due.all(1, 1, 'm')), -4);
        d.due("fault", x.fault(), 0);
        d.due("a fourth, not a text", Due.build(x, "w1h1;mmmmx"), -109);
        d.due("many", x.many(0), 3);
        for (int h = 0; h < 3; h++) d.due("W of " + h, x.ofHouse(h, 0), h + 1);
        d.due("W of 3", x.ofHouse(3, 0), -1);
        d.due("W of -1", x.ofHouse(-1, 0), -1);
    }

    private static void counts() {
        Counted x = new Counted();
        Due.build(x, "w2h1;mggooommm");
        d.due("MIRRORS", x.ofHouse(0, 4), 4);
        d.due("GLASS", x.ofHouse(0, 5), 2);
        d.due("OPEN", x.ofHouse(0, 6), 3);
        d.due("SMEARED", x.ofHouse(0, 7), 0);
        d.due("what 8", x.ofHouse(0, 8), -2);
        d.due("what -1", x.ofHouse(0, -1), -2);
        d.due("no house ahead of what", x.ofHouse(1, 8), -1);
    }

    private static void layout() {
        Counted x = new Counted();
        Due.build(x, Due.all(4, 3, 'o'));
        // the midst: c = 4 + 1, its first room 10
        d.due("10 way 2", x.side(0, 10, 2), 15);
        d.due("10 way 1", x.side(0, 10, 1), 16);
        d.due("10 way 0", x.side(0, 10, 0), 17);
        d.due("11 way 2", x.side(0, 11, 2), 15);
        d.due("11 way 1", x.side(0, 11, 1), 19);
        d.due("11 way 0", x.side(0, 11, 0), 29);
        d.due("room behind 16", x.ofSide(0, 16, 3), 9);
        d.due("room behind 17", x.ofSide(0, 17, 3), 3);
        d.due("way of 15", x.ofSide(0, 15, 1), 2);
        d.due("way of 16", x.ofSide(0, 16, 1), 1);
        d.due("way of 17", x.ofSide(0, 17, 1), 0);
        // the borders
        d.due("first at x 0", x.ofSide(0, 13, 3), -9);
        d.due("first at y 0", x.ofSide(0, 5, 3), -9);
        d.due("right border of y 1", x.side(0, 15, 1), 37);
        d.due("its even room", x.ofSide(0, 37, 2), -9);
        d.due("its odd room", x.ofSide(0, 37, 3), 15);
        d.due("its way", x.ofSide(0, 37, 1), 1);
        d.due("top border of x 2", x.side(0, 21, 0), 41);
        d.due("its even room", x.ofSide(0, 41, 2), -9);
        d.due("its odd room", x.ofSide(0, 41, 3), 21);
        d.due("its way", x.ofSide(0, 41, 1), 0);
        // all: each side is the side of that way of the rooms by it
        for (int k = 0; k < 43; k++) {
            int way = x.ofSide(0, k, 1);
            for (int what = 2; what <= 3; what++) {
                int room = x.ofSide(0, k, what);
                if (room != -9) d.due("side of " + room + " by " + way, x.side(0, room, way), k);
                if (room != -9) d.due("even, odd", room % 2, what - 2);
            }
        }
        d.due("side 43", x.ofSide(0, 43, 0), -1);
        d.due("side -1", x.ofSide(0, -1, 9), -1);
        d.due("what 5", x.ofSide(0, 0, 5), -2);
        d.due("what -1", x.ofSide(0, 0, -1), -2);
        d.due("house 1", x.ofSide(1, 0, 0), -1);
        d.due("room 24", x.side(0, 24, 3), -1);
        d.due("room -1", x.side(0, -1, 0), -1);
        d.due("way 3", x.side(0, 0, 3), -2);
        d.due("way -1", x.side(0, 0, -1), -2);
        d.due("house -1", x.side(-1, 0, 0), -1);
    }

    private static void panes() {
        Counted x = new Counted();
        Due.build(x, "w1h1;ggmmm");
        d.due("pane", x.pane(0, 2, 1), 0);
        d.due("is glass", x.ofSide(0, 2, 0), 1);
        d.due("pane", x.pane(0, 2, 2), 1);
        d.due("pane", x.pane(0, 2, 2), 2);
        d.due("pane to a mirror", x.pane(0, 2, 0), 2);
        d.due("v 3", x.pane(0, 2, 3), -2);
        d.due("v -1", x.pane(0, 2, -1), -2);
        d.due("side 5", x.pane(0, 5, 3), -1);
        d.due("house 1", x.pane(1, 0, 0), -1);
        x.walker(1, 0, 0, 1);
        x.ticks(0, 1);
        d.due("smeared", x.ofSide(0, 0, 4), 1);
        d.due("smeared ones", x.ofHouse(0, 7), 1);
        d.due("pane as it was", x.pane(0, 0, 1), 1);
        d.due("smeared still", x.ofSide(0, 0, 4), 1);
        d.due("pane to another", x.pane(0, 0, 2), 1);
        d.due("not smeared", x.ofSide(0, 0, 4), 0);
        d.due("pane back", x.pane(0, 0, 1), 2);
        d.due("not smeared now", x.ofSide(0, 0, 4), 0);
        d.due("smeared ones", x.ofHouse(0, 7), 0);
    }
}
