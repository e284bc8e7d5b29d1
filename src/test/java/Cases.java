import java.util.HashMap;
import java.util.List;
import java.util.Map;
import java.util.TreeMap;

/**
 * Tests with names. Each is of one sentence of the document that names a boundary case: its name tells the number of
 * the promise and that sentence.
 */
final class Cases {
    /** What fault() tells behind a call that names no faults: what it told ahead of it. */
    static final int STAYS = -1;

    interface Test {
        void run();
    }

    interface Recipe {
        Counted make();
    }

    interface Call {
        long on(Counted x);
    }

    private final Map<Integer, Integer> testsOf = new TreeMap<>();
    private final Map<Recipe, List<String>> states = new HashMap<>();
    private String name = "";
    private int tests = 0, answers = 0, wrong = 0;

    void test(int promise, String sentence, Test test) {
        name = "promise " + promise + ", \"" + sentence + "\"";
        testsOf.merge(promise, 1, Integer::sum);
        tests++;
        int before = answers;
        try {
            test.run();
        } catch (RuntimeException | StackOverflowError e) {
            miss("threw " + e);
        }
        if (answers == before) miss("looked at nothing");
    }

    private void miss(String what) {
        wrong++;
        if (wrong <= 100) System.out.println(name + ": " + what);
    }

    void due(String call, long got, long want) {
        answers++;
        if (got != want) miss(call + " answered " + got + ", due is " + want);
    }

    /**
     * A call that is refused, or comes to a fault: it answers so, changes nothing that other calls tell, and behind it
     * fault() tells what it should (STAYS: what it told ahead), be there a fault ahead of it or none.
     */
    void refused(String call, Recipe recipe, Call c, long want, int fault) {
        for (int ahead : new int[] {0, 4}) {
            Counted x = recipe.make();
            x.sheet(ahead == 4 ? 0 : 4, 0, -1);
            due(call, c.on(x), want);
            due("fault() behind " + call, x.fault(), fault == STAYS ? ahead : fault);
            answers++;
            List<String> due = states.computeIfAbsent(recipe, r -> State.of(r.make()));
            List<String> got = State.of(x);
            if (!got.equals(due)) miss(call + " changed something: " + firstUnlike(got, due));
        }
    }

    private static String firstUnlike(List<String> got, List<String> due) {
        for (int k = 0; k < got.size() && k < due.size(); k++) {
            if (!got.get(k).equals(due.get(k))) return got.get(k) + " instead of " + due.get(k);
        }
        return got.size() + " rows instead of " + due.size();
    }

    /** Prints how it went; ends with exit code 1 if an answer was wrong, or a promise has no test. */
    void end(int firstPromise, int lastPromise) {
        for (int promise = firstPromise; promise <= lastPromise; promise++) {
            name = "promise " + promise;
            if (!testsOf.containsKey(promise)) miss("has no test");
        }
        System.out.println(tests + " tests of boundaries, " + answers + " answers, " + wrong + " not as due");
        if (wrong != 0) System.exit(1);
    }
}
