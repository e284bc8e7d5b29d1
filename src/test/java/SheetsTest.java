/** Promises 24 to 28, and 33 for them: sheet, lose, put, cell, copy, fault. */
public final class SheetsTest {
    private static final Due d = new Due();
    private static final long LOST = MirrorHouse.LOST;

    public static void main(String[] args) {
        sheets();
        cuts();
        cells();
        copies();
        faultsOfCopy();
        faultStays();
        d.end();
    }

    private static void fault(Counted x, int want) {
        d.due("fault", x.fault(), want);
    }

    private static void sheets() {
        Counted x = new Counted();
        d.due("new", x.sheet(0, 0, 0), 1);
        d.due("longest", x.sheet(1, 2, 60), 1);
        d.due("n 61", x.sheet(1, 2, 61), -2);
        fault(x, 0);
        d.due("n -1", x.sheet(1, 2, -1), -14);
        fault(x, 4);
        d.due("least n", x.sheet(1, 2, Integer.MIN_VALUE), -14);
        d.due("sort ahead of size", x.sheet(1, 3, -1), -2);
        fault(x, 0);
        d.due("sort -1", x.sheet(1, -1, 5), -2);
        d.due("unknown ahead of all", x.sheet(4, 3, -1), -1);
        d.due("sheet -1", x.sheet(-1, 0, 1), -1);
        d.due("it has its 60 still", x.cell(1, 59, 2), 0);
        x.put(1, 3, 77);
        d.due("a new row", x.sheet(1, 2, 5), 1);
        d.due("is of 0", x.cell(1, 3, 2), 0);
        d.due("and shorter", x.cell(1, 5, 2), LOST);
        fault(x, 3);
        x.put(1, 3, 77);
        d.due("longer again", x.sheet(1, 2, 7), 1);
        d.due("is of 0", x.cell(1, 3, 2), 0);
        d.due("no cell in an empty row", x.put(0, 0, 1), -13);
        d.due("lose an empty row", x.lose(0), 1);
        d.due("lose nothing", x.lose(0), 0);
        d.due("lose", x.lose(1), 1);
        d.due("lose nothing", x.lose(1), 0);
        d.due("lose never had", x.lose(3), 0);
        d.due("lose 4", x.lose(4), -1);
        d.due("lose -1", x.lose(-1), -1);
        d.due("put to nothing", x.put(1, 3, 1), -11);
        fault(x, 1);
        x.sheet(1, 2, 7);
        d.due("of 0 again", x.cell(1, 3, 2), 0);
    }

    private static void cuts() {
        Counted x = new Counted();
        for (int sort = 0; sort < 3; sort++) x.sheet(sort, sort, 3);
        int[] v = {127, 128, 255, 256, -128, -129, 32767, 32768, 65536, -32769, Integer.MAX_VALUE, Integer.MIN_VALUE};
        long[] bytes = {127, -128, -1, 0, -128, 127, -1, 0, 0, -1, -1, 0};
        long[] shorts = {127, 128, 255, 256, -128, -129, 32767, -32768, 0, 32767, -1, 0};
        for (int k = 0; k < v.length; k++) {
            for (int sort = 0; sort < 3; sort++) {
                d.due("put " + v[k], x.put(sort, 1, v[k]), 1);
                long want = sort == 0 ? bytes[k] : sort == 1 ? shorts[k] : v[k];
                d.due("cell of sort " + sort + ", " + v[k], x.cell(sort, 1, sort), want);
            }
        }
        d.due("the cells by it", x.cell(0, 0, 0), 0);
        d.due("the cells by it", x.cell(0, 2, 0), 0);
    }

    private static void cells() {
        Counted x = new Counted();
        d.due("nothing is no cast", x.cell(0, -1, 1), LOST);
        fault(x, 1);
        d.due("put to nothing", x.put(0, -1, 1), -11);
        fault(x, 1);
        x.sheet(0, 1, 2);
        d.due("cast ahead of index", x.cell(0, -1, 0), LOST);
        fault(x, 2);
        d.due("index", x.cell(0, 2, 1), LOST);
        fault(x, 3);
        d.due("index -1", x.cell(0, -1, 1), LOST);
        fault(x, 3);
        d.due("sort 3", x.cell(0, -1, 3), LOST);
        fault(x, 0);
        x.cell(0, 2, 1);
        d.due("sort -1", x.cell(0, -1, -1), LOST);
        fault(x, 0);
        x.cell(0, 2, 1);
        d.due("sheet 4", x.cell(4, 0, 0), LOST);
        fault(x, 0);
        d.due("sheet -1", x.cell(-1, 0, 0), LOST);
        d.due("put", x.put(0, 2, 1), -13);
        fault(x, 3);
        d.due("put -1", x.put(0, -1, 1), -13);
        d.due("put far", x.put(0, Integer.MAX_VALUE, 1), -13);
        d.due("put to 4", x.put(4, 0, 1), -1);
        fault(x, 0);
        d.due("put to -1", x.put(-1, 0, 1), -1);
        d.due("put", x.put(0, 1, 1), 1);
        fault(x, 0);
        d.due("cell", x.cell(0, 1, 1), 1);
    }

    private static void copies() {
        Counted x = new Counted();
        Due.row(x, 0, 1, 2, 3, 4, 5, 6);
        x.sheet(1, 2, 4);
        d.due("copy", x.copy(0, 2, 1, 1, 3), 3);
        long[] want = {0, 3, 4, 5};
        for (int i = 0; i < 4; i++) d.due("cell", x.cell(1, i, 2), want[i]);
        d.due("the first is as it was", x.cell(0, 2, 2), 3);
        d.due("on in itself", x.copy(0, 0, 0, 2, 4), 4);
        long[] on = {1, 2, 1, 2, 3, 4};
        for (int i = 0; i < 6; i++) d.due("cell", x.cell(0, i, 2), on[i]);
        d.due("back in itself", x.copy(0, 1, 0, 0, 5), 5);
        long[] back = {2, 1, 2, 3, 4, 4};
        for (int i = 0; i < 6; i++) d.due("cell", x.cell(0, i, 2), back[i]);
        d.due("none", x.copy(0, 6, 1, 4, 0), 0);
        fault(x, 0);
        d.due("all", x.copy(1, 0, 0, 2, 4), 4);
    }

    private static void faultsOfCopy() {
        Counted x = new Counted();
        x.sheet(0, 2, 6);
        x.sheet(1, 1, 4);
        x.sheet(2, 2, 4);
        d.due("sheet 4", x.copy(4, 0, 3, 0, -1), -1);
        d.due("to 4", x.copy(3, 0, 4, 0, -1), -1);
        d.due("to -1", x.copy(0, 0, -1, 0, 1), -1);
        d.due("sheet -1", x.copy(-1, 0, 0, 0, 1), -1);
        d.due("from nothing", x.copy(3, -1, 0, 0, -1), -11);
        fault(x, 1);
        d.due("to nothing", x.copy(0, -1, 3, 0, -1), -11);
        fault(x, 1);
        d.due("of unlike sorts, ahead of index", x.copy(0, -1, 1, 0, -1), -12);
        fault(x, 2);
        int[][] beyond = {{-1, 0, 0}, {7, 0, 0}, {0, -1, 0}, {0, 5, 0}, {0, 0, -1}, {0, 0, 5}, {3, 0, 4}, {0, 1, 4},
            {0, 0, Integer.MAX_VALUE}, {1, 1, Integer.MAX_VALUE}, {Integer.MAX_VALUE, 0, 1}, {0, Integer.MIN_VALUE, 1},
            {0, 0, Integer.MIN_VALUE}, {6, 4, -1}, {6, 0, 1}, {0, 4, 1}};
        for (int[] b : beyond) {
            d.due("copy " + b[0] + ", " + b[1] + ", " + b[2], x.copy(0, b[0], 2, b[1], b[2]), -13);
            fault(x, 3);
        }
        x.put(0, 0, 9);
        x.copy(0, 0, 2, 0, 5);
        d.due("nothing was copied", x.cell(2, 0, 2), 0);
        x.copy(9, 0, 2, 0, 5);
        fault(x, 0);
    }

    /** Calls that name no faults leave the latest one as it is. */
    private static void faultStays() {
        Counted x = new Counted();
        Due.build(x, Due.all(1, 1, 'o'));
        x.walker(0, 0, 0, 0);
        x.put(3, 60, 0);
        fault(x, 3);
        fault(x, 3);
        x.lose(0);
        x.lose(4);
        x.ofHouse(0, 0);
        x.ofHouse(1, 0);
        x.ofSide(0, 0, 9);
        x.side(0, 0, 0);
        x.pane(0, 0, 0);
        x.seen(0, 0, 0, 0, 0, 0);
        x.met(0, 0, 1, 0, 0);
        x.image(0, 0, 1, 0);
        x.images(0, 0, 0, 1, 0);
        x.report(0, 0, 0, 0, true);
        x.spots(0);
        x.taken(0);
        x.walker(0, 0, 0, 9);
        x.ticks(0, 1);
        x.ofWalker(0, 0);
        x.shut(0);
        x.far(0, 9);
        x.opened(0, 1, 0);
        x.changed(0, 0);
        x.change(0, 0, 0);
        x.tell(0);
        x.greet(9);
        x.trace();
        x.many(9);
        fault(x, 3);
        x.sheet(0, 0, 1);
        fault(x, 0);
        x.put(3, 60, 0);
        x.house(3, 0, 0, 3);
        fault(x, 0);
        x.put(3, 60, 0);
        x.photograph(3, 0, 0, 3);
        fault(x, 0);
        x.put(3, 60, 0);
        x.keeps(0, 0, 0, 3, 0, 0, 0, 0);
        fault(x, 0);
        x.put(3, 60, 0);
        x.cell(3, 0, 0);
        fault(x, 0);
        x.put(3, 60, 0);
        x.copy(3, 0, 3, 0, 0);
        fault(x, 0);
        x.put(3, 60, 0);
        x.as(0, 0);
        fault(x, 0);
    }
}
