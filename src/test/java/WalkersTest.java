/** Promises 15 to 17: walker, ticks, ofWalker. */
public final class WalkersTest {
    private static final Due d = new Due();

    public static void main(String[] args) {
        newWalkers();
        handOfTheBlind();
        seers();
        wary();
        waryCountsTogether();
        byNumbers();
        ticksOfOneHouse();
        d.end();
    }

    private static Counted of(String text) {
        Counted x = new Counted();
        d.due("house " + text, Due.build(x, text), 0);
        return x;
    }

    private static void newWalkers() {
        Counted x = of(Due.all(2, 1, 'm'));
        d.due("kind 3", x.walker(3, 0, 0, 0), -2);
        d.due("kind -1", x.walker(-1, 0, 0, 0), -2);
        d.due("way 3", x.walker(0, 0, 0, 3), -2);
        d.due("way -1", x.walker(0, 0, 0, -1), -2);
        d.due("house 1", x.walker(3, 1, 0, 3), -1);
        d.due("room 4", x.walker(3, 0, 4, 3), -1);
        d.due("room -1", x.walker(3, 0, -1, 3), -1);
        for (int w = 0; w < 8; w++) d.due("walker", x.walker(w % 3, 0, w % 4, w % 3), w);
        d.due("full", x.walker(0, 0, 0, 0), -4);
        d.due("outside ahead of full", x.walker(0, 0, 0, 3), -2);
        d.due("unknown ahead of full", x.walker(0, 0, 4, 3), -1);
        d.due("many", x.many(3), 8);
        d.due("none out", x.many(4), 0);
        int[] fresh = {2, 0, 1, 2, 0, 0, -9};
        for (int what = 0; what < 7; what++) d.due("of walker 5: " + what, x.ofWalker(5, what), fresh[what]);
        d.due("what 7", x.ofWalker(5, 7), -2);
        d.due("what -1", x.ofWalker(5, -1), -2);
        d.due("walker 8", x.ofWalker(8, 7), -1);
        d.due("walker -1", x.ofWalker(-1, 0), -1);
        d.due("n -1", x.ticks(0, -1), -2);
        d.due("n 201", x.ticks(0, 201), -2);
        d.due("n 0", x.ticks(0, 0), 8);
        d.due("n 200: all shut in", x.ticks(0, 200), 8);
        d.due("house 1", x.ticks(1, 201), -1);
        d.due("house -1", x.ticks(-1, 0), -1);
        d.due("went nowhere", x.ofWalker(5, 4), 0);
    }

    private static void handOfTheBlind() {
        // all open: from the first room by d and 1 (d and 2 in the second)
        for (int room = 0; room < 2; room++) {
            for (int came = 0; came < 3; came++) {
                for (int shut = 0; shut < 4; shut++) {
                    Counted x = of(Due.all(1, 1, 'o'));
                    int[] order = room == 0 ? new int[] {1, 2, 0} : new int[] {2, 1, 0};
                    for (int k = 0; k < shut; k++) x.pane(0, x.side(0, room, (came + order[k]) % 3), k % 2);
                    x.walker(0, 0, room, came);
                    x.ticks(0, 1);
                    int went = shut < 3 ? (came + order[shut]) % 3 : came;
                    String what = "room " + room + " came " + came + " shut " + shut;
                    d.due(what + ": by", x.ofWalker(0, 3), went);
                    d.due(what + ": went", x.ofWalker(0, 4), shut < 3 ? 1 : 0);
                    d.due(what + ": in", x.ofWalker(0, 2), shut == 3 ? room : went == 2 ? 1 - room : -9);
                    d.due(what + ": out", x.ofWalker(0, 6), shut < 3 && went != 2 ? 1 : -9);
                    d.due(what + ": ran", x.ofWalker(0, 5), 0);
                    d.due(what + ": smeared", x.ofHouse(0, 7), 0);
                }
            }
        }
    }

    private static void seers() {
        // room 0: way 1 glass, way 2 a mirror, way 0 glass
        Counted x = of("w1h1;mggoo");
        x.walker(1, 0, 0, 0);
        d.due("tick", x.ticks(0, 1), 1);
        d.due("ran into way 1", x.ofSide(0, 1, 4), 1);
        d.due("not into way 0", x.ofSide(0, 2, 4), 0);
        d.due("stays", x.ofWalker(0, 2), 0);
        d.due("came as ahead", x.ofWalker(0, 3), 0);
        d.due("ran", x.ofWalker(0, 5), 1);
        d.due("went", x.ofWalker(0, 4), 0);
        d.due("tick", x.ticks(0, 1), 1);
        d.due("ran into way 0", x.ofSide(0, 2, 4), 1);
        d.due("tick", x.ticks(0, 3), 1);
        d.due("ran", x.ofWalker(0, 5), 2);
        d.due("changed to another pane and back it is clean", x.pane(0, 1, 2), 1);
        d.due("back", x.pane(0, 1, 1), 2);
        d.due("tick", x.ticks(0, 1), 1);
        d.due("ran again", x.ofWalker(0, 5), 3);
        d.due("open", x.pane(0, 2, 2), 1);
        d.due("tick", x.ticks(0, 1), 0);
        d.due("out", x.ofWalker(0, 2), -9);
        d.due("by way 0", x.ofWalker(0, 3), 0);
        d.due("TICKS till then: all", x.ofWalker(0, 6), 7);
        d.due("went once", x.ofWalker(0, 4), 1);
        d.due("ticks on", x.ticks(0, 9), 0);
        d.due("TICKS till then stay", x.ofWalker(0, 6), 7);
        d.due("out", x.many(4), 1);
        // an open side ahead of glass is taken
        Counted y = of("w1h1;ggooo");
        y.walker(1, 0, 0, 2);
        y.ticks(0, 1);
        d.due("out by way 0", y.ofWalker(0, 6), 1);
        d.due("none smeared", y.ofHouse(0, 7), 0);
        // a blind one does not run into glass
        Counted z = of("w1h1;gggoo");
        z.walker(0, 0, 0, 2);
        d.due("stays", z.ticks(0, 5), 1);
        d.due("ran never", z.ofWalker(0, 5), 0);
        d.due("none smeared", z.ofHouse(0, 7), 0);
    }

    private static void wary() {
        // rooms 0 and 1, 2 and 3 in a row; from 0 by way 2 to 1, by way 1 to 2, by way 2 to 3: shut in
        Counted x = of("w2h1;ommoommmm");
        x.walker(2, 0, 0, 0);
        int[] rooms = {1, 2, 3, 2, 1, 0, 1, 2};
        for (int room : rooms) {
            x.ticks(0, 1);
            d.due("in room", x.ofWalker(0, 2), room);
        }
        d.due("went", x.ofWalker(0, 4), 8);
        // in room 1 it had been by way 2 once and by way 1 never, then by way 1 once less
        Counted y = of(Due.all(1, 1, 'm'));
        y.pane(0, 0, 2);
        y.walker(2, 0, 0, 2);
        d.due("to and fro", y.ticks(0, 6), 1);
        d.due("went", y.ofWalker(0, 4), 6);
        y.pane(0, 1, 2);
        y.pane(0, 2, 2);
        d.due("a seer would take way 0", y.ticks(0, 0), 1);
        y.ticks(0, 1);
        d.due("both never tried: by the hand", y.ofWalker(0, 3), 0);
        // by fewest times against the hand
        Counted z = of("w1h1;mgmmm");
        z.walker(2, 0, 0, 0);
        z.walker(1, 0, 0, 0);
        z.ticks(0, 1);
        d.due("ran into way 1", z.ofWalker(0, 5), 1);
        d.due("the seer finds it smeared", z.ofWalker(1, 5), 0);
        z.pane(0, 1, 2);
        z.pane(0, 2, 2);
        z.ticks(0, 1);
        d.due("the wary one: way 0, never tried", z.ofWalker(0, 3), 0);
        d.due("out", z.ofWalker(0, 6), 2);
        d.due("the seer: way 1", z.ofWalker(1, 3), 1);
    }

    private static void waryCountsTogether() {
        // it goes by side 0 to room 1 and back: twice; runs into side 1 once, into side 2 twice
        Counted x = of("w1h1;mgmmm");
        x.walker(2, 0, 0, 0);
        x.ticks(0, 1);
        x.pane(0, 1, 0);
        x.pane(0, 2, 1);
        x.ticks(0, 1);
        x.pane(0, 2, 0);
        x.pane(0, 2, 1);
        x.ticks(0, 1);
        d.due("ran", x.ofWalker(0, 5), 3);
        x.pane(0, 2, 2);
        x.pane(0, 1, 1);
        x.pane(0, 0, 0);
        x.ticks(0, 1);
        d.due("into glass tried once, not by the way tried twice", x.ofWalker(0, 5), 4);
        x.pane(0, 1, 0);
        x.pane(0, 1, 2);
        x.ticks(0, 1);
        d.due("both twice: by the hand", x.ofWalker(0, 3), 1);
        // a way gone by counts from both rooms
        Counted y = of("w1h1;ommmm");
        y.walker(2, 0, 0, 0);
        y.ticks(0, 2);
        y.pane(0, 1, 1);
        y.ticks(0, 1);
        d.due("back in room 0 by way 2: way 1 fewer times", y.ofWalker(0, 5), 1);
        y.pane(0, 2, 2);
        y.ticks(0, 1);
        d.due("way 0, never tried", y.ofWalker(0, 6), 4);
    }

    private static void byNumbers() {
        Counted x = of("w1h1;mgmmm");
        x.walker(1, 0, 0, 0);
        x.walker(1, 0, 0, 0);
        x.ticks(0, 1);
        d.due("the first runs into it", x.ofWalker(0, 5), 1);
        d.due("then it is smeared", x.ofWalker(1, 5), 0);
    }

    private static void ticksOfOneHouse() {
        Counted x = of(Due.all(2, 1, 'o'));
        Due.build(x, Due.all(1, 1, 'o'));
        x.walker(0, 0, 0, 0);
        x.walker(0, 1, 0, 0);
        x.walker(0, 0, 1, 0);
        x.walker(0, 1, 1, 2);
        d.due("of house 1", x.ticks(1, 1), 0);
        d.due("house of 1", x.ofWalker(1, 1), 1);
        d.due("out of 1", x.many(4), 2);
        d.due("those of house 0 stayed", x.ofWalker(0, 4), 0);
        d.due("both in", x.ticks(0, 0), 2);
        d.due("0 goes out by way 1, 2 to room 0", x.ticks(0, 1), 1);
        d.due("2 in", x.ofWalker(2, 2), 0);
        d.due("it came by", x.ofWalker(2, 3), 2);
        d.due("all out", x.ticks(0, 200), 0);
        d.due("TICKS of 2", x.ofWalker(2, 6), 2);
        d.due("out", x.many(4), 4);
        x.walker(0, 0, 0, 0);
        d.due("a late one", x.ticks(0, 1), 0);
        d.due("its TICKS alone", x.ofWalker(4, 6), 1);
    }
}
