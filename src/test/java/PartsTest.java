/** Promises 29 to 34: tell, greet, as, trace, fault, many. */
public final class PartsTest {
    private static final Due d = new Due();

    public static void main(String[] args) {
        telling();
        greeting();
        traceWraps();
        kinds();
        counts();
        constants();
        d.end();
    }

    /** Walkers 0 to 2 of the three kinds, that went to and fro for three ticks. */
    private static Counted walked() {
        Counted x = new Counted();
        d.due("house", Due.build(x, "w1h1;ommmm"), 0);
        for (int kind = 0; kind < 3; kind++) x.walker(kind, 0, 0, 0);
        d.due("ticks", x.ticks(0, 3), 3);
        return x;
    }

    private static int traceOf(int... bodies) {
        int trace = 0;
        for (int body : bodies) trace = 31 * trace + body;
        return trace;
    }

    private static void telling() {
        Counted x = walked();
        d.due("blind", x.tell(0), 3);
        d.due("trace", x.trace(), traceOf(1));
        d.due("seer", x.tell(1), 103);
        d.due("trace", x.trace(), traceOf(1, 2, 1));
        d.due("wary", x.tell(2), 106);
        d.due("trace", x.trace(), traceOf(1, 2, 1, 3, 2, 1, 1));
        d.due("walker 3", x.tell(3), -1);
        d.due("walker -1", x.tell(-1), -1);
        d.due("trace as it was", x.trace(), traceOf(1, 2, 1, 3, 2, 1, 1));
        x.ticks(0, 1);
        d.due("one tick on", x.tell(0), 4);
        d.due("wary", x.tell(2), 108);
        Counted y = new Counted();
        Due.build(y, "w1h1;mgmmm");
        y.walker(1, 0, 0, 0);
        y.ticks(0, 3);
        d.due("what it ran into is not counted", y.tell(0), 100);
    }

    private static void greeting() {
        Counted x = walked();
        x.walker(1, 0, 0, 0);
        d.due("blind", x.greet(0), 0);
        d.due("trace", x.trace(), traceOf(4));
        d.due("seer", x.greet(1), 1);
        d.due("wary", x.greet(2), 70);
        d.due("trace", x.trace(), traceOf(4, 4, 5));
        d.due("another", x.greet(3), 3);
        d.due("trace", x.trace(), traceOf(4, 4, 5, 4));
        d.due("walker 4", x.greet(4), -1);
        d.due("walker -1", x.greet(-1), -1);
        d.due("trace as it was", x.trace(), traceOf(4, 4, 5, 4));
    }

    private static void traceWraps() {
        Counted x = walked();
        int trace = 0;
        for (int k = 0; k < 40; k++) {
            x.greet(k % 3);
            trace = 31 * trace + (k % 3 == 2 ? 5 : 4);
            d.due("trace", x.trace(), trace);
        }
    }

    private static void kinds() {
        Counted x = walked();
        for (int w = 0; w < 3; w++) {
            for (int kind = 0; kind < 3; kind++) {
                boolean is = kind <= w;
                d.due("as " + w + ", " + kind, x.as(w, kind), is ? 1 : -12);
                d.due("fault", x.fault(), is ? 0 : 2);
            }
        }
        x.as(0, 2);
        d.due("walker 3", x.as(3, 9), -1);
        d.due("fault", x.fault(), 0);
        x.as(0, 2);
        d.due("kind 3", x.as(0, 3), -2);
        d.due("fault", x.fault(), 0);
        d.due("kind -1", x.as(2, -1), -2);
        d.due("walker -1", x.as(-1, 0), -1);
    }

    private static void counts() {
        Counted x = walked();
        d.due("houses", x.many(0), 1);
        d.due("reports", x.many(1), 0);
        d.due("rows", x.many(2), 0);
        d.due("walkers", x.many(3), 3);
        d.due("out", x.many(4), 0);
        x.report(0, 0, 1, 0, true);
        d.due("reports", x.many(1), 1);
        Due.row(x, 0, 1, 0, 0, 0, 0, 1, 0, 0, 0, 0);
        x.photograph(0, 2, 0, 10);
        d.due("rows", x.many(2), 2);
        x.pane(0, 1, 2);
        x.ticks(0, 2);
        d.due("out", x.many(4), 3);
        d.due("walkers", x.many(3), 3);
        d.due("what 5", x.many(5), -2);
        d.due("what -1", x.many(-1), -2);
    }

    private static void constants() {
        d.due("UNKNOWN", MirrorHouse.UNKNOWN, -1);
        d.due("OUTSIDE", MirrorHouse.OUTSIDE, -2);
        d.due("STATE", MirrorHouse.STATE, -3);
        d.due("FULL", MirrorHouse.FULL, -4);
        d.due("NONE", MirrorHouse.NONE, -9);
        d.due("LOST", MirrorHouse.LOST, Long.MIN_VALUE);
    }
}
