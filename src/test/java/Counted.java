/** A MirrorHouse that no test calls more often than the document promises answers: 512 times. */
final class Counted {
    static final int MOST = 512;

    private final MirrorHouse house = new MirrorHouse();
    private int calls = 0;

    int calls() {
        return calls;
    }

    private MirrorHouse x() {
        if (calls >= MOST) throw new IllegalStateException("a test calls one object more than 512 times");
        calls++;
        return house;
    }

    int house(int sheet, int sort, int i, int n) {
        return x().house(sheet, sort, i, n);
    }

    int ofHouse(int h, int what) {
        return x().ofHouse(h, what);
    }

    int ofSide(int h, int k, int what) {
        return x().ofSide(h, k, what);
    }

    int side(int h, int room, int way) {
        return x().side(h, room, way);
    }

    int pane(int h, int k, int v) {
        return x().pane(h, k, v);
    }

    int seen(int h, int room, int p, int q, int n, int what) {
        return x().seen(h, room, p, q, n, what);
    }

    int met(int h, int room, int p, int q, int k) {
        return x().met(h, room, p, q, k);
    }

    int image(int h, int room, int p, int q) {
        return x().image(h, room, p, q);
    }

    int images(int h, int room, int r, int g, int what) {
        return x().images(h, room, r, g, what);
    }

    int report(int h, int room, int p, int q, boolean saw) {
        return x().report(h, room, p, q, saw);
    }

    int spots(int h) {
        return x().spots(h);
    }

    int photograph(int sheet, int sort, int i, int n) {
        return x().photograph(sheet, sort, i, n);
    }

    int taken(int h) {
        return x().taken(h);
    }

    int walker(int kind, int h, int room, int way) {
        return x().walker(kind, h, room, way);
    }

    int ticks(int h, int n) {
        return x().ticks(h, n);
    }

    int ofWalker(int w, int what) {
        return x().ofWalker(w, what);
    }

    int shut(int h) {
        return x().shut(h);
    }

    int far(int h, int room) {
        return x().far(h, room);
    }

    int opened(int h, int d, int k) {
        return x().opened(h, d, k);
    }

    int keeps(int h, int room, int way, int sheet, int sort, int i, int n, int what) {
        return x().keeps(h, room, way, sheet, sort, i, n, what);
    }

    long changed(int h, int other) {
        return x().changed(h, other);
    }

    int change(int h, int other, int k) {
        return x().change(h, other, k);
    }

    int sheet(int k, int sort, int n) {
        return x().sheet(k, sort, n);
    }

    int lose(int k) {
        return x().lose(k);
    }

    int put(int k, int i, int v) {
        return x().put(k, i, v);
    }

    long cell(int k, int i, int sort) {
        return x().cell(k, i, sort);
    }

    int copy(int k, int i, int other, int j, int n) {
        return x().copy(k, i, other, j, n);
    }

    int tell(int w) {
        return x().tell(w);
    }

    int greet(int w) {
        return x().greet(w);
    }

    int as(int w, int kind) {
        return x().as(w, kind);
    }

    int trace() {
        return x().trace();
    }

    int fault() {
        return x().fault();
    }

    int many(int what) {
        return x().many(what);
    }
}
