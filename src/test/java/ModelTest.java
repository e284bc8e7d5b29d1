import java.util.Random;

/** All promises: runs of calls, the same ones each time, against the model. */
public final class ModelTest {
    private static final Due d = new Due();
    // the most calls that any(), that tellHouse(), tellPhotograph() makes
    private static final int RUNS = 400, AT_ONCE = 16, OF_A_TEXT = 60, OF_A_PHOTOGRAPH = 40;

    private final Random random;
    private final int run;
    private final Counted x = new Counted();
    private final Model m = new Model();
    private final boolean wild;

    private ModelTest(int run) {
        this.run = run;
        random = new Random(run);
        wild = run % 8 == 7;
    }

    public static void main(String[] args) {
        for (int run = 0; run < RUNS; run++) new ModelTest(run).go();
        d.end();
    }

    /** All the calls that the document promises answers for, the last one too. */
    private void go() {
        while (left() >= AT_ONCE) {
            if (random.nextInt(left() > 300 ? 12 : 30) == 0 && left() >= OF_A_TEXT) tellHouse();
            else if (random.nextInt(60) == 0 && left() >= OF_A_PHOTOGRAPH) tellPhotograph();
            else any();
        }
        for (int k = 0; left() > 0; k++) due("many(" + k + ")", x.many(k), m.many(k));
    }

    private int left() {
        return Counted.MOST - x.calls();
    }

    private void due(String call, long got, long want) {
        d.due("run " + run + ", call " + x.calls() + ": " + call, got, want);
    }

    /** A number from least to most, now and then one just beyond or a far one. */
    private int num(int least, int most) {
        if (wild && random.nextInt(5) == 0) return random.nextInt();
        int dice = random.nextInt(60);
        if (dice == 0) return least - 1;
        if (dice == 1) return most + 1;
        if (dice == 2) return new int[] {Integer.MIN_VALUE, Integer.MAX_VALUE, -9, 100}[random.nextInt(4)];
        return least + random.nextInt(most - least + 1);
    }

    private int houseNumber() {
        return num(0, Math.max(0, m.houses.size() - 1));
    }

    private int roomOf(int h) {
        return num(0, m.h(h) == null ? 3 : m.h(h).rooms() - 1);
    }

    private int sideOf(int h) {
        return num(0, m.h(h) == null ? 3 : m.h(h).sides() - 1);
    }

    private int turn() {
        int size = new int[] {3, 9, 24, 60}[random.nextInt(4)];
        return num(-size, size);
    }

    private int walkerNumber() {
        return num(0, Math.max(0, m.walkers.size() - 1));
    }

    private int sortOf(int k) {
        return random.nextInt(10) > 0 && k >= 0 && k < 4 ? m.sorts[k] : num(0, 2);
    }

    private int lengthOf(int k) {
        return k >= 0 && k < 4 && m.sheets[k] != null ? m.sheets[k].length : 10;
    }

    private void put(int k, int i, int v) {
        due("put(" + k + ", " + i + ", " + v + ")", x.put(k, i, v), m.put(k, i, v));
    }

    private void sheet(int k, int sort, int n) {
        due("sheet(" + k + ", " + sort + ", " + n + ")", x.sheet(k, sort, n), m.sheet(k, sort, n));
    }

    private void tellHouse() {
        int w = 1 + random.nextInt(4), h = 1 + random.nextInt(3);
        if (!m.houses.isEmpty() && random.nextInt(3) > 0) {
            w = m.houses.get(0).w;
            h = m.houses.get(0).h;
        }
        int mirrors = random.nextInt(8), glass = random.nextInt(8), open = 1 + random.nextInt(30);
        StringBuilder text = new StringBuilder().append('w').append(w).append('h').append(h).append(';');
        for (int k = 0; k < 3 * w * h + w + h; k++) {
            int dice = random.nextInt(mirrors + glass + open);
            text.append(dice < mirrors ? 'm' : dice < mirrors + glass ? 'g' : 'o');
        }
        if (!m.houses.isEmpty() && m.houses.get(0).w == w && m.houses.get(0).h == h) likeTheFirst(text);
        if (random.nextInt(10) == 0) text.setCharAt(random.nextInt(text.length()), (char) (40 + random.nextInt(80)));
        if (random.nextInt(20) == 0) text.append('o');
        if (random.nextInt(20) == 0) text.setLength(random.nextInt(text.length()));
        int sort = random.nextInt(3), k = random.nextInt(4), off = random.nextInt(5);
        sheet(k, sort, text.length() + off);
        for (int i = 0; i < text.length(); i++) put(k, off + i, text.charAt(i));
        call(0, k, sort, off, text.length());
    }

    private void likeTheFirst(StringBuilder text) {
        int unlike = random.nextInt(9);
        String as = text.toString();
        for (int k = 0; k < m.houses.get(0).sides(); k++) text.setCharAt(5 + k, "mgo".charAt(m.houses.get(0).kind[k]));
        for (int n = 0; n < unlike; n++) {
            int k = 5 + random.nextInt(text.length() - 5);
            text.setCharAt(k, as.charAt(k));
        }
    }

    /** A photograph as it would be taken from some room, perhaps with a flaw. */
    private void tellPhotograph() {
        int h = houseNumber(), room = roomOf(h), rows = 1 + random.nextInt(6);
        int k = random.nextInt(4);
        sheet(k, 2, 5 * rows + random.nextInt(2));
        for (int r = 0; r < rows; r++) {
            int p = turn(), q = turn();
            put(k, 5 * r, p);
            put(k, 5 * r + 1, q);
            for (int what = 0; what < 3; what++) put(k, 5 * r + 2 + what, m.seen(h, room, p, q, 60, what));
        }
        call(12, k, 2, 0, 5 * rows);
        due("taken", x.taken(h), m.taken(h));
    }

    private void call(int which, int k, int sort, int i, int n) {
        String args = "(" + k + ", " + sort + ", " + i + ", " + n + ")";
        if (which == 0) due("house" + args, x.house(k, sort, i, n), m.house(k, sort, i, n));
        else due("photograph" + args, x.photograph(k, sort, i, n), m.photograph(k, sort, i, n));
        due("fault", x.fault(), m.fault);
    }

    private void any() {
        int h = houseNumber(), room = roomOf(h), p = turn(), q = turn();
        int k = num(0, 3), w = walkerNumber();
        switch (random.nextInt(34)) {
            case 0 -> call(0, k, sortOf(k), num(0, 5), num(0, 50));
            case 1 -> {
                int what = num(0, 7);
                due("ofHouse(" + h + ", " + what + ")", x.ofHouse(h, what), m.ofHouse(h, what));
            }
            case 2 -> {
                int s = sideOf(h), what = num(0, 4);
                due("ofSide(" + h + ", " + s + ", " + what + ")", x.ofSide(h, s, what), m.ofSide(h, s, what));
            }
            case 3 -> {
                int way = num(0, 2);
                due("side(" + h + ", " + room + ", " + way + ")", x.side(h, room, way), m.side(h, room, way));
            }
            case 4, 5 -> {
                int s = sideOf(h), v = num(0, 2);
                due("pane(" + h + ", " + s + ", " + v + ")", x.pane(h, s, v), m.pane(h, s, v));
            }
            case 6, 7 -> {
                int n = random.nextBoolean() ? num(1, 200) : num(1, 8);
                for (int what = 0; what < 4; what++) {
                    due("seen(" + h + ", " + room + ", " + p + ", " + q + ", " + n + ", " + what + ")",
                        x.seen(h, room, p, q, n, what), m.seen(h, room, p, q, n, what));
                }
                due("seen", x.seen(h, room, p, q, n, num(9, 9)), m.seen(h, room, p, q, n, 9));
            }
            case 8 -> {
                int n = random.nextBoolean() ? num(0, 200) : num(0, 8);
                due("met(" + h + ", " + room + ", " + p + ", " + q + ", " + n + ")", x.met(h, room, p, q, n), m.met(h, room, p, q, n));
            }
            case 9, 10 -> {
                // most ends are no middles: go to one
                int a = p - Math.floorMod(p, 3), b = q - Math.floorMod(q, 3);
                due("image(" + h + ", " + room + ", " + a + ", " + b + ")", x.image(h, room, a, b), m.image(h, room, a, b));
                due("image(" + h + ", " + room + ", " + p + ", " + q + ")", x.image(h, room, p, q), m.image(h, room, p, q));
            }
            case 11 -> {
                int r = roomOf(h), g = num(1, random.nextInt(20) == 0 ? 24 : 6);
                for (int what = 0; what < 3; what++) {
                    due("images(" + h + ", " + room + ", " + r + ", " + g + ", " + what + ")",
                        x.images(h, room, r, g, what), m.images(h, room, r, g, what));
                }
            }
            case 12 -> {
                boolean saw = random.nextInt(4) == 0;
                int a = saw ? p - Math.floorMod(p, 3) : p, b = saw ? q - Math.floorMod(q, 3) : q;
                due("report(" + h + ", " + room + ", " + a + ", " + b + ", " + saw + ")", x.report(h, room, a, b, saw), m.report(h, room, a, b, saw));
                due("spots(" + h + ")", x.spots(h), m.spots(h));
            }
            case 13 -> due("spots(" + h + ")", x.spots(h), m.spots(h));
            case 14 -> call(12, k, sortOf(k), num(0, 3), random.nextBoolean() ? 5 * num(0, 7) : num(0, 31));
            case 15 -> due("taken(" + h + ")", x.taken(h), m.taken(h));
            case 16 -> {
                int kind = num(0, 2), way = num(0, 2);
                due("walker(" + kind + ", " + h + ", " + room + ", " + way + ")", x.walker(kind, h, room, way), m.walker(kind, h, room, way));
            }
            case 17, 18, 19 -> {
                int n = random.nextInt(4) == 0 ? num(0, 200) : num(0, 3);
                due("ticks(" + h + ", " + n + ")", x.ticks(h, n), m.ticks(h, n));
                due("SMEARED of " + h, x.ofHouse(h, 7), m.ofHouse(h, 7));
            }
            case 20, 21 -> {
                for (int what = -1; what < 8; what++) due("ofWalker(" + w + ", " + what + ")", x.ofWalker(w, what), m.ofWalker(w, what));
            }
            case 22 -> {
                due("shut(" + h + ")", x.shut(h), m.shut(h));
                due("far(" + h + ", " + room + ")", x.far(h, room), m.far(h, room));
            }
            case 23 -> {
                if (random.nextInt(3) > 0) return;
                int far = random.nextBoolean() ? num(1, 30) : num(1, 6), a = num(-1, 1);
                due("opened(" + h + ", " + far + ", " + a + ")", x.opened(h, far, a), m.opened(h, far, a));
            }
            case 24 -> keeps(h, room, k);
            case 25 -> {
                int other = houseNumber(), a = num(0, 9);
                if (m.h(h) != null && m.h(other) != null && h != other) {
                    var unlike = Model.unlike(m.h(h), m.h(other));
                    if (unlike != null && unlike.size() > 7) return;
                }
                due("changed(" + h + ", " + other + ")", x.changed(h, other), m.changed(h, other));
                due("change(" + h + ", " + other + ", " + a + ")", x.change(h, other, a), m.change(h, other, a));
                due("change(" + h + ", " + other + ", 0)", x.change(h, other, 0), m.change(h, other, 0));
            }
            case 26 -> {
                if (random.nextBoolean()) sheet(k, num(0, 2), num(0, 60));
                else if (random.nextInt(5) == 0) due("lose(" + k + ")", x.lose(k), m.lose(k));
                due("fault", x.fault(), m.fault);
            }
            case 27 -> {
                put(k, num(0, lengthOf(k)), random.nextBoolean() ? num(-130, 130) : random.nextInt());
                due("fault", x.fault(), m.fault);
            }
            case 28 -> {
                int i = num(0, lengthOf(k)), sort = sortOf(k);
                due("cell(" + k + ", " + i + ", " + sort + ")", x.cell(k, i, sort), m.cell(k, i, sort));
                due("fault", x.fault(), m.fault);
            }
            case 29 -> {
                int other = num(0, 3), i = num(0, 9), j = num(0, 9), n = num(0, lengthOf(k));
                due("copy(" + k + ", " + i + ", " + other + ", " + j + ", " + n + ")", x.copy(k, i, other, j, n), m.copy(k, i, other, j, n));
                due("fault", x.fault(), m.fault);
            }
            case 30 -> {
                due("tell(" + w + ")", x.tell(w), m.tell(w));
                due("trace", x.trace(), m.trace);
            }
            case 31 -> {
                due("greet(" + w + ")", x.greet(w), m.greet(w));
                due("trace", x.trace(), m.trace);
            }
            case 32 -> {
                int kind = num(0, 2);
                due("as(" + w + ", " + kind + ")", x.as(w, kind), m.as(w, kind));
                due("fault", x.fault(), m.fault);
            }
            default -> {
                int what = num(0, 4);
                due("many(" + what + ")", x.many(what), m.many(what));
            }
        }
    }

    private void keeps(int h, int room, int k) {
        int n = 1 + random.nextInt(8), i = random.nextInt(3);
        if (random.nextInt(4) > 0 && k >= 0 && k < 4) {
            sheet(k, 2, n + i);
            int from = random.nextInt(10), step = 1 + random.nextInt(4);
            for (int s = 0; s < n; s++) put(k, i + s, random.nextInt(30) == 0 ? sideOf(h) : from + s * step);
        }
        int way = num(0, 2), sort = sortOf(k), count = random.nextInt(6) == 0 ? num(0, 9) : n;
        for (int what = 0; what < 2; what++) {
            due("keeps(" + h + ", " + room + ", " + way + ", " + k + ", " + sort + ", " + i + ", " + count + ", " + what + ")",
                x.keeps(h, room, way, k, sort, i, count, what), m.keeps(h, room, way, k, sort, i, count, what));
            due("fault", x.fault(), m.fault);
        }
    }
}
