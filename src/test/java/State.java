import java.util.ArrayList;
import java.util.List;

/** All that calls tell of an object, but for fault(), which is asked ahead of this. */
final class State {
    private final Counted x;
    private final List<String> rows = new ArrayList<>();

    private State(Counted x) {
        this.x = x;
    }

    static List<String> of(Counted x) {
        State state = new State(x);
        state.all();
        return state.rows;
    }

    private void row(String call, long answer) {
        rows.add(call + ": " + answer);
    }

    private void all() {
        for (int what = 0; what < 5; what++) row("many " + what, x.many(what));
        row("trace", x.trace());
        for (int h = 0; h < x.many(0); h++) house(h);
        int walkers = x.many(3);
        for (int w = 0; w < walkers; w++) walker(w);
        for (int k = 0; k < 4; k++) sheet(k);
        // where they go from here tells what is remembered of where they went
        for (int h = 0; h < x.many(0); h++) row("ticks of " + h, x.ticks(h, 7));
        for (int w = 0; w < walkers; w++) walker(w);
    }

    private void house(int h) {
        for (int what = 0; what < 8; what++) row("ofHouse " + h + ", " + what, x.ofHouse(h, what));
        int sides = x.ofHouse(h, 3);
        for (int k = 0; k < sides; k++) {
            row("pane of " + h + ", " + k, x.ofSide(h, k, 0));
            row("smear of " + h + ", " + k, x.ofSide(h, k, 4));
        }
        row("spots of " + h, x.spots(h));
        row("taken of " + h, x.taken(h));
        row("shut of " + h, x.shut(h));
    }

    private void walker(int w) {
        for (int what = 0; what < 7; what++) row("ofWalker " + w + ", " + what, x.ofWalker(w, what));
    }

    /** Its sort is that by which no cell of it is a cast; its length, where its cells end. */
    private void sheet(int k) {
        int sort = 0;
        while (sort < 3 && castBy(k, sort)) sort++;
        row("sort of " + k, sort);
        for (int i = 0; i <= 60; i++) {
            long cell = x.cell(k, i, sort);
            int fault = cell == MirrorHouse.LOST ? x.fault() : 0;
            row("cell " + k + ", " + i, cell);
            row("its fault", fault);
            if (fault != 0) return;
        }
    }

    private boolean castBy(int k, int sort) {
        return x.cell(k, 0, sort) == MirrorHouse.LOST && x.fault() == 2;
    }
}
