/** Objects in which there is nothing, something, and as much as there may be, of each thing. */
final class Recipes {
    private Recipes() {
    }

    static final Cases.Recipe NEW = Counted::new;
    static final Cases.Recipe SOME = Recipes::some;
    static final Cases.Recipe FULL = Recipes::full;

    /**
     * Houses 0, 1 of 2 by 1, alike but for sides 4, 5; walkers 0, 1, 2 of each kind in house 0, walker 3 in house 1;
     * two reports; a photograph of two rows; sheet 0: the bytes of a text; 1: ten ints, two rows of a photograph;
     * 2: no shorts; 3: nothing.
     */
    private static Counted some() {
        Counted x = new Counted();
        Due.build(x, "w2h1;ogmoogmmo");
        Due.build(x, "w2h1;ogmogommo");
        x.lose(3);
        Due.write(x, 0, "w1h1;omgom");
        Due.row(x, 1, -1, 0, 1, 1, 0, 0, -1, 1, 2, 1);
        x.sheet(2, 1, 0);
        x.photograph(1, 2, 0, 10);
        x.report(0, 0, 1, 1, true);
        x.report(1, 0, 1, 1, false);
        x.walker(0, 0, 1, 2);
        x.walker(1, 0, 0, 0);
        x.walker(2, 0, 0, 1);
        x.walker(2, 1, 3, 0);
        x.ticks(0, 3);
        x.ticks(1, 1);
        x.tell(2);
        return x;
    }

    /**
     * Houses 0, 1, 2 of 1 by 1; 8 walkers, of which 5 are out; 12 reports; a photograph of 6 rows; sheet 0: 60 bytes, the
     * bytes of a text ahead; 1: 30 ints, six rows of a photograph; 2: two shorts; 3: an int.
     */
    private static Counted full() {
        Counted x = new Counted();
        x.sheet(0, 0, 60);
        String text = "w1h1;ogogm";
        for (int i = 0; i < text.length(); i++) x.put(0, i, text.charAt(i));
        x.house(0, 0, 0, 10);
        x.put(0, 7, 'm');
        x.house(0, 0, 0, 10);
        x.put(0, 8, 'o');
        x.house(0, 0, 0, 10);
        x.sheet(1, 2, 30);
        for (int i = 0; i < 30; i += 5) {
            x.put(1, i, 1);
            x.put(1, i + 2, 1);
            x.put(1, i + 3, 2);
        }
        x.photograph(1, 2, 0, 30);
        x.sheet(2, 1, 2);
        x.put(2, 1, -3);
        x.sheet(3, 2, 1);
        x.put(3, 0, 4);
        for (int k = 0; k < 12; k++) x.report(k % 3, 0, 1, 1, k != 2);
        for (int w = 0; w < 8; w++) x.walker(w % 3, w % 3, w % 2, w / 3);
        x.ticks(0, 2);
        x.ticks(1, 2);
        x.ticks(2, 4);
        x.tell(1);
        return x;
    }
}
