/** The boundary cases of promises 24 to 28 and of Terms 5 (SHEETS), each in a test of its own. */
public final class BoundsSheetsTest {
    private static final int UNKNOWN = -1, OUTSIDE = -2;
    private static final long LOST = MirrorHouse.LOST;
    private static final int LEAST = Integer.MIN_VALUE, MOST = Integer.MAX_VALUE;
    private static final Cases t = new Cases();

    public static void main(String[] args) {
        sheet();
        refusalsOfSheet();
        lose();
        put();
        cuts();
        cell();
        copy();
        placesOfCopy();
        refusalsOfCopy();
        t.end(24, 28);
    }

    private static int[] by(int... numbers) {
        return numbers;
    }

    // ---- promise 24

    private static void sheet() {
        t.test(24, "Terms 5: a row of 0 .. 60 numbers (0 at first): 0, 1, 60, of each SORT", () -> {
            for (int sort = 0; sort < 3; sort++) {
                for (int n : new int[] {0, 1, 59, 60}) {
                    Counted x = new Counted();
                    t.due("n " + n, x.sheet(0, sort, n), 1);
                    t.due("fault()", x.fault(), 0);
                    for (int i = 0; i < n; i++) t.due("cell " + i, x.cell(0, i, sort), 0);
                    t.due("none behind", x.cell(0, n, sort), LOST);
                    t.due("fault()", x.fault(), 3);
                }
            }
        });
        t.test(24, "Terms 5: SHEETS 0 .. 3: each of its own", () -> {
            Counted x = new Counted();
            for (int k = 0; k < 4; k++) {
                t.due("sheet " + k, x.sheet(k, 2, k + 1), 1);
                for (int i = 0; i <= k; i++) x.put(k, i, 10 * k + i);
            }
            for (int k = 0; k < 4; k++) {
                for (int i = 0; i <= k; i++) t.due("cell " + k + ", " + i, x.cell(k, i, 2), 10 * k + i);
                t.due("none behind", x.cell(k, k + 1, 2), LOST);
            }
        });
        t.test(24, "A SHEET gets a new row: shorter, longer, of another SORT; none of what it had is in it", () -> {
            Counted x = new Counted();
            Due.row(x, 1, 7, 7, 7, 7, 7);
            t.due("shorter", x.sheet(1, 2, 3), 1);
            for (int i = 0; i < 3; i++) t.due("cell " + i, x.cell(1, i, 2), 0);
            t.due("none behind", x.cell(1, 3, 2), LOST);
            x.put(1, 2, 9);
            t.due("longer", x.sheet(1, 2, 6), 1);
            for (int i = 0; i < 6; i++) t.due("cell " + i, x.cell(1, i, 2), 0);
            x.put(1, 5, 9);
            t.due("as long, of bytes", x.sheet(1, 0, 6), 1);
            for (int i = 0; i < 6; i++) t.due("cell " + i, x.cell(1, i, 0), 0);
            t.due("no ints", x.cell(1, 0, 2), LOST);
            t.due("fault()", x.fault(), 2);
            x.put(1, 5, 9);
            t.due("as it is", x.sheet(1, 0, 6), 1);
            t.due("cell 5", x.cell(1, 5, 0), 0);
            t.due("of none", x.sheet(1, 0, 0), 1);
            t.due("no cell", x.cell(1, 0, 0), LOST);
        });
    }

    private static void refusedSheet(String call, int[] a, int want, int fault) {
        for (Cases.Recipe recipe : new Cases.Recipe[] {Recipes.NEW, Recipes.SOME, Recipes.FULL}) {
            t.refused("sheet " + call, recipe, x -> x.sheet(a[0], a[1], a[2]), want, fault);
        }
    }

    private static void refusalsOfSheet() {
        t.test(24, "UNKNOWN: SHEETS 0 .. 3", () -> {
            for (int k : new int[] {-1, 4, LEAST, MOST}) refusedSheet("sheet " + k, by(k, 0, 5), UNKNOWN, 0);
        });
        t.test(24, "OUTSIDE: sort (0 .. 2)", () -> {
            for (int sort : new int[] {-1, 3, LEAST, MOST}) {
                for (int k = 0; k < 4; k++) refusedSheet("sort " + sort, by(k, sort, 5), OUTSIDE, 0);
            }
        });
        t.test(24, "OUTSIDE: n above 60", () -> {
            for (int n : new int[] {61, 62, MOST}) {
                for (int k = 0; k < 4; k++) refusedSheet("n " + n, by(k, 0, n), OUTSIDE, 0);
            }
        });
        t.test(24, "SIZE: a length below 0", () -> {
            for (int n : new int[] {-1, -61, LEAST}) {
                for (int k = 0; k < 4; k++) refusedSheet("n " + n, by(k, 0, n), -14, 4);
            }
        });
        t.test(24, "UNKNOWN; OUTSIDE: sort, n above 60; SIZE: in this order", () -> {
            refusedSheet("sheet and sort", by(4, 3, 5), UNKNOWN, 0);
            refusedSheet("sheet and n", by(-1, 0, 61), UNKNOWN, 0);
            refusedSheet("sheet and size", by(4, 0, -1), UNKNOWN, 0);
            refusedSheet("sort and n", by(0, 3, 61), OUTSIDE, 0);
            refusedSheet("sort and size", by(0, -1, -1), OUTSIDE, 0);
        });
    }

    // ---- promise 25

    private static void lose() {
        t.test(25, "A SHEET has nothing: 1; 0: it had nothing", () -> {
            for (int k = 0; k < 4; k++) {
                Counted x = new Counted();
                t.due("it had nothing ever", x.lose(k), 0);
                x.sheet(k, 1, 5);
                t.due("it had something", x.lose(k), 1);
                t.due("it had nothing", x.lose(k), 0);
                for (int sort = 0; sort < 3; sort++) {
                    t.due("no cell", x.cell(k, 0, sort), LOST);
                    t.due("fault()", x.fault(), 1);
                }
                t.due("no place", x.put(k, 0, 1), -11);
                x.sheet(k, 2, 1);
                t.due("it has something again", x.lose(k), 1);
            }
        });
        t.test(25, "a row of 0 numbers is not nothing", () -> {
            Counted x = new Counted();
            x.sheet(0, 0, 0);
            t.due("it had a row", x.lose(0), 1);
            t.due("it had nothing", x.lose(0), 0);
        });
        t.test(25, "A SHEET has nothing: the others have what they had", () -> {
            Counted x = new Counted();
            for (int k = 0; k < 4; k++) Due.row(x, k, 5 + k);
            x.lose(1);
            x.lose(3);
            t.due("0", x.cell(0, 0, 2), 5);
            t.due("2", x.cell(2, 0, 2), 7);
            t.due("lose 0", x.lose(0), 1);
        });
        t.test(25, "A SHEET has nothing: a new row has none of the numbers of the lost one", () -> {
            Counted x = new Counted();
            Due.row(x, 0, 5, 6, 7);
            x.lose(0);
            x.sheet(0, 2, 4);
            for (int i = 0; i < 4; i++) t.due("cell " + i, x.cell(0, i, 2), 0);
        });
        t.test(25, "UNKNOWN: SHEETS 0 .. 3", () -> {
            for (int k : new int[] {-1, 4, LEAST, MOST}) {
                t.refused("lose " + k, Recipes.SOME, x -> x.lose(k), UNKNOWN, Cases.STAYS);
                t.refused("lose " + k, Recipes.FULL, x -> x.lose(k), UNKNOWN, Cases.STAYS);
            }
            t.refused("lose nothing changes nothing", Recipes.SOME, x -> x.lose(3), 0, Cases.STAYS);
        });
    }

    // ---- promise 26

    private static void refusedPut(String call, Cases.Recipe recipe, int[] a, int want, int fault) {
        t.refused("put " + call, recipe, x -> x.put(a[0], a[1], a[2]), want, fault);
    }

    private static void put() {
        t.test(26, "Cell i of a SHEET becomes v: 1: the first, the last, the others stay", () -> {
            for (int n : new int[] {1, 2, 60}) {
                Counted x = new Counted();
                x.sheet(0, 2, n);
                for (int i : new int[] {0, n - 1}) {
                    t.due("put " + i, x.put(0, i, 100 + i), 1);
                    t.due("fault()", x.fault(), 0);
                }
                for (int i = 0; i < n; i++) t.due("cell " + i, x.cell(0, i, 2), i == 0 || i == n - 1 ? 100 + i : 0);
            }
        });
        t.test(26, "UNKNOWN: SHEETS 0 .. 3", () -> {
            for (int k : new int[] {-1, 4, LEAST, MOST}) refusedPut("to sheet " + k, Recipes.FULL, by(k, 0, 1), UNKNOWN, 0);
        });
        t.test(26, "NULL: a SHEET that has nothing, none ever or no more", () -> {
            refusedPut("to nothing ever", Recipes.NEW, by(0, 0, 1), -11, 1);
            refusedPut("to nothing", Recipes.SOME, by(3, 0, 1), -11, 1);
        });
        t.test(26, "INDEX: i is not a cell: -1, as many as there are; none in a row of 0", () -> {
            for (int i : new int[] {-1, 10, 59, 60, LEAST, MOST}) refusedPut("cell " + i, Recipes.SOME, by(0, i, 1), -13, 3);
            for (int i : new int[] {-1, 60, 61}) refusedPut("cell " + i, Recipes.FULL, by(0, i, 1), -13, 3);
            for (int i : new int[] {-1, 0, 1}) refusedPut("cell " + i + " of none", Recipes.SOME, by(2, i, 1), -13, 3);
            t.due("the last", Recipes.SOME.make().put(0, 9, 1), 1);
            t.due("the 60th", Recipes.FULL.make().put(0, 59, 1), 1);
        });
        t.test(26, "UNKNOWN; NULL; INDEX: in this order", () -> {
            refusedPut("sheet and index", Recipes.SOME, by(4, -1, 1), UNKNOWN, 0);
            refusedPut("null and index", Recipes.SOME, by(3, -1, 1), -11, 1);
            refusedPut("null and index", Recipes.NEW, by(3, 60, 1), -11, 1);
        });
    }

    private static void cut(int sort, int v, long want) {
        Counted x = new Counted();
        x.sheet(0, sort, 2);
        t.due("put " + v, x.put(0, 1, v), 1);
        t.due("cell of sort " + sort + " by " + v, x.cell(0, 1, sort), want);
        t.due("the one beside it", x.cell(0, 0, sort), 0);
    }

    private static void cuts() {
        t.test(26, "Terms 5: what comes to a cell of it is cut to its SORT (with its sign): bytes", () -> {
            int[] v = {0, 1, -1, 127, 128, 129, 255, 256, 383, 384, -128, -129, -255, -256, 32767, 65535, MOST, LEAST};
            int[] want = {0, 1, -1, 127, -128, -127, -1, 0, 127, -128, -128, 127, 1, 0, -1, -1, -1, 0};
            for (int k = 0; k < v.length; k++) cut(0, v[k], want[k]);
        });
        t.test(26, "Terms 5: what comes to a cell of it is cut to its SORT (with its sign): shorts", () -> {
            int[] v = {0, -1, 127, 128, 255, 32767, 32768, 65535, 65536, 98303, 98304, -32768, -32769, -65536, MOST, LEAST};
            int[] want = {0, -1, 127, 128, 255, 32767, -32768, -1, 0, 32767, -32768, -32768, 32767, 0, -1, 0};
            for (int k = 0; k < v.length; k++) cut(1, v[k], want[k]);
        });
        t.test(26, "Terms 5: what comes to a cell of it is cut to its SORT (with its sign): ints", () -> {
            for (int v : new int[] {0, -1, 128, 32768, 65536, MOST, LEAST, LEAST + 1}) cut(2, v, v);
        });
    }

    // ---- promise 27

    private static void refusedCell(String call, Cases.Recipe recipe, int[] a, int fault) {
        t.refused("cell " + call, recipe, x -> x.cell(a[0], a[1], a[2]), LOST, fault);
    }

    private static void cell() {
        t.test(27, "LOST: UNKNOWN: SHEETS 0 .. 3", () -> {
            for (int k : new int[] {-1, 4, LEAST, MOST}) refusedCell("of sheet " + k, Recipes.FULL, by(k, 0, 0), 0);
        });
        t.test(27, "LOST: OUTSIDE: sort (0 .. 2)", () -> {
            for (int sort : new int[] {-1, 3, LEAST, MOST}) {
                for (int k = 0; k < 4; k++) refusedCell("sort " + sort, Recipes.SOME, by(k, 0, sort), 0);
            }
        });
        t.test(27, "CAST: taken as a row of a SORT that it is not of: each of each", () -> {
            for (int sort = 0; sort < 3; sort++) {
                for (int other = 0; other < 3; other++) {
                    Counted x = new Counted();
                    x.sheet(0, sort, 1);
                    x.put(0, 0, 5);
                    t.due(sort + " as " + other, x.cell(0, 0, other), sort == other ? 5 : LOST);
                    t.due("fault()", x.fault(), sort == other ? 0 : 2);
                }
            }
            refusedCell("ints as bytes", Recipes.SOME, by(1, 0, 0), 2);
            refusedCell("none as ints", Recipes.SOME, by(2, 0, 2), 2);
        });
        t.test(27, "CAST (nothing is no CAST), NULL", () -> {
            for (int sort = 0; sort < 3; sort++) {
                refusedCell("of nothing ever", Recipes.NEW, by(0, 0, sort), 1);
                refusedCell("of nothing", Recipes.SOME, by(3, 0, sort), 1);
            }
        });
        t.test(27, "INDEX: i is not a cell: -1, as many as there are; none in a row of 0", () -> {
            for (int i : new int[] {-1, 10, 59, 60, LEAST, MOST}) refusedCell("cell " + i, Recipes.SOME, by(0, i, 0), 3);
            for (int i : new int[] {-1, 60, 61}) refusedCell("cell " + i, Recipes.FULL, by(0, i, 0), 3);
            for (int i : new int[] {-1, 0, 1}) refusedCell("cell " + i + " of none", Recipes.SOME, by(2, i, 1), 3);
            t.due("the first", Recipes.SOME.make().cell(0, 0, 0), 'w');
            t.due("the last", Recipes.SOME.make().cell(0, 9, 0), 'm');
            t.due("the 60th", Recipes.FULL.make().cell(0, 59, 0), 0);
        });
        t.test(27, "UNKNOWN, OUTSIDE: sort; FAULTS CAST, NULL, INDEX: in this order", () -> {
            refusedCell("sheet and sort", Recipes.SOME, by(4, -1, 3), 0);
            refusedCell("sort of nothing", Recipes.SOME, by(3, -1, 3), 0);
            refusedCell("sort and index", Recipes.SOME, by(0, 10, -1), 0);
            refusedCell("cast and index", Recipes.SOME, by(0, 10, 1), 2);
            refusedCell("cast and index", Recipes.SOME, by(0, -1, 2), 2);
            refusedCell("null and index", Recipes.SOME, by(3, -1, 2), 1);
        });
        t.test(27, "LOST is the least long; no cell is", () -> {
            t.due("LOST", LOST, Long.MIN_VALUE);
            Counted x = new Counted();
            Due.row(x, 0, LEAST);
            t.due("the least int", x.cell(0, 0, 2), -2147483648L);
        });
    }

    // ---- promise 28

    private static Counted rows(int from, int to) {
        Counted x = new Counted();
        x.sheet(0, 2, from);
        for (int i = 0; i < from; i++) x.put(0, i, 10 + i);
        x.sheet(1, 2, to);
        for (int i = 0; i < to; i++) x.put(1, i, 50 + i);
        return x;
    }

    private static void copy() {
        t.test(28, "n cells of a SHEET from i on go to another one from j on, as they were: n: 0, 1, all", () -> {
            for (int[] c : new int[][] {{0, 0, 0}, {0, 0, 1}, {5, 3, 1}, {2, 0, 4}, {0, 0, 4}, {1, 2, 2}, {6, 4, 0}, {6, 0, 0}, {0, 4, 0}}) {
                Counted x = rows(6, 4);
                t.due("copy " + c[0] + ", " + c[1] + ", " + c[2], x.copy(0, c[0], 1, c[1], c[2]), c[2]);
                t.due("fault()", x.fault(), 0);
                for (int i = 0; i < 6; i++) t.due("the first: " + i, x.cell(0, i, 2), 10 + i);
                for (int j = 0; j < 4; j++) {
                    boolean came = j >= c[1] && j < c[1] + c[2];
                    t.due("the other: " + j, x.cell(1, j, 2), came ? 10 + c[0] + j - c[1] : 50 + j);
                }
            }
        });
        t.test(28, "n cells: 60, the most", () -> {
            Counted x = rows(60, 60);
            t.due("all", x.copy(0, 0, 1, 0, 60), 60);
            for (int i = 0; i < 60; i++) t.due("cell " + i, x.cell(1, i, 2), 10 + i);
            t.due("61", x.copy(0, 0, 1, 0, 61), -13);
        });
        t.test(28, "(perhaps the same), as they were: on in itself, back in itself, to where they are", () -> {
            for (int[] c : new int[][] {{0, 1, 5}, {0, 3, 3}, {1, 0, 5}, {3, 0, 3}, {2, 2, 4}, {0, 0, 6}, {0, 2, 4}, {2, 0, 4}}) {
                Counted x = rows(6, 0);
                t.due("copy " + c[0] + ", " + c[1] + ", " + c[2], x.copy(0, c[0], 0, c[1], c[2]), c[2]);
                for (int i = 0; i < 6; i++) {
                    boolean came = i >= c[1] && i < c[1] + c[2];
                    t.due("cell " + i, x.cell(0, i, 2), came ? 10 + c[0] + i - c[1] : 10 + i);
                }
            }
        });
        t.test(28, "of each SORT, with their signs; between each two SHEETS", () -> {
            for (int sort = 0; sort < 3; sort++) {
                for (int k = 0; k < 4; k++) {
                    for (int other = 0; other < 4; other++) {
                        if (k == other) continue;
                        Counted x = new Counted();
                        x.sheet(k, sort, 2);
                        x.sheet(other, sort, 3);
                        x.put(k, 1, -100);
                        t.due("copy", x.copy(k, 1, other, 2, 1), 1);
                        t.due("cell", x.cell(other, 2, sort), -100);
                        t.due("cell", x.cell(other, 1, sort), 0);
                    }
                }
            }
        });
        t.test(28, "what comes behind to the one is not in the other", () -> {
            Counted x = rows(2, 2);
            x.copy(0, 0, 1, 0, 2);
            x.put(0, 0, 99);
            t.due("the other", x.cell(1, 0, 2), 10);
            x.lose(0);
            t.due("the other", x.cell(1, 1, 2), 11);
        });
    }

    private static final Cases.Recipe SIX_TO_FOUR = () -> rows(6, 4);

    private static void places(String call, int i, int j, int n) {
        t.refused("copy " + call, SIX_TO_FOUR, x -> x.copy(0, i, 1, j, n), -13, 3);
    }

    private static void placesOfCopy() {
        t.test(28, "INDEX: i below 0 or beyond", () -> {
            places("i -1", -1, 0, 1);
            places("i 6", 6, 0, 1);
            places("i 4 and 3", 4, 0, 3);
            places("the least i", LEAST, 0, 1);
            places("the most i", MOST, 0, 1);
        });
        t.test(28, "INDEX: j below 0 or beyond", () -> {
            places("j -1", 0, -1, 1);
            places("j 4", 0, 4, 1);
            places("j 2 and 3", 0, 2, 3);
            places("the least j", 0, LEAST, 1);
            places("the most j", 0, MOST, 1);
        });
        t.test(28, "INDEX: n below 0 or beyond (it is no SIZE)", () -> {
            places("n -1", 0, 0, -1);
            places("n -1 from 6 to 4", 6, 4, -1);
            places("n -1 from 3 to 3", 3, 3, -1);
            places("the least n", 0, 0, LEAST);
            places("the least n from 1 to 1", 1, 1, LEAST);
            places("n 5: more than the other has", 0, 0, 5);
            places("n 7: more than both have", 0, 0, 7);
            places("n 4 from 3 on: more than the first has", 3, 0, 4);
        });
        t.test(28, "INDEX: i, j, n that wrap around", () -> {
            places("the most", 0, 0, MOST);
            places("the most from 1 to 1", 1, 1, MOST);
            places("the most from 6 to 4", 6, 4, MOST);
            places("the most of all", MOST, MOST, MOST);
            places("the most from the most", MOST, 0, 2);
            places("the most to the most", 0, MOST, 2);
        });
        t.test(28, "INDEX (of cells from i on also where i is not 0 .. how many there are, if none of them is taken, too)", () -> {
            places("none from -1 on", -1, 0, 0);
            places("none from 7 on", 7, 0, 0);
            places("none to -1", 0, -1, 0);
            places("none to 5", 0, 5, 0);
            places("none from the least on", LEAST, 0, 0);
            places("none to the most", 0, MOST, 0);
            t.due("none from 6 to 4", SIX_TO_FOUR.make().copy(0, 6, 1, 4, 0), 0);
            Counted x = rows(0, 0);
            t.due("none of none to none", x.copy(0, 0, 1, 0, 0), 0);
            t.due("none of none in itself", x.copy(0, 0, 0, 0, 0), 0);
            t.due("none from 1 on of none", x.copy(0, 1, 1, 0, 0), -13);
            t.due("none to 1 of none", x.copy(0, 0, 1, 1, 0), -13);
            t.due("one of none", x.copy(0, 0, 1, 0, 1), -13);
        });
    }

    private static void copy(String call, int[] a, int want, int fault) {
        t.refused("copy " + call, Recipes.SOME, x -> x.copy(a[0], a[1], a[2], a[3], a[4]), want, fault);
    }

    private static void refusalsOfCopy() {
        t.test(28, "UNKNOWN: the SHEET, the other one", () -> {
            for (int k : new int[] {-1, 4, LEAST, MOST}) {
                copy("of sheet " + k, by(k, 0, 0, 0, 1), UNKNOWN, 0);
                copy("to sheet " + k, by(0, 0, k, 0, 1), UNKNOWN, 0);
            }
        });
        t.test(28, "NULL (the first, the other)", () -> {
            copy("of nothing", by(3, 0, 0, 0, 1), -11, 1);
            copy("to nothing", by(0, 0, 3, 0, 1), -11, 1);
            copy("of nothing to itself", by(3, 0, 3, 0, 0), -11, 1);
            t.refused("copy of nothing ever", Recipes.NEW, x -> x.copy(0, 0, 1, 0, 0), -11, 1);
        });
        t.test(28, "CAST (unlike SORTS): each of each", () -> {
            for (int sort = 0; sort < 3; sort++) {
                for (int other = 0; other < 3; other++) {
                    Counted x = new Counted();
                    x.sheet(0, sort, 1);
                    x.put(0, 0, 5);
                    x.sheet(1, other, 1);
                    t.due(sort + " to " + other, x.copy(0, 0, 1, 0, 1), sort == other ? 1 : -12);
                    t.due("fault()", x.fault(), sort == other ? 0 : 2);
                    t.due("cell", x.cell(1, 0, other), sort == other ? 5 : 0);
                }
            }
            copy("bytes to ints", by(0, 0, 1, 0, 1), -12, 2);
            copy("ints to shorts, none", by(1, 0, 2, 0, 0), -12, 2);
        });
        t.test(28, "UNKNOWN; FAULTS NULL, CAST, INDEX: in this order", () -> {
            copy("sheet and null", by(4, 0, 3, 0, 1), UNKNOWN, 0);
            copy("null and the other sheet", by(3, 0, 4, 0, 1), UNKNOWN, 0);
            copy("sheet and index", by(0, -1, 4, 0, 1), UNKNOWN, 0);
            copy("null and index", by(3, -1, 0, -1, -1), -11, 1);
            copy("the other null and index", by(0, -1, 3, -1, -1), -11, 1);
            copy("null, not cast", by(2, 0, 3, 0, 1), -11, 1);
            copy("cast and index", by(0, -1, 1, -1, -1), -12, 2);
            copy("cast and index of none", by(1, 0, 2, 0, 1), -12, 2);
        });
    }
}
