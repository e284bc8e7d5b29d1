/** What the tests share: calls against the answers that are due, and houses told by texts. */
final class Due {
    private int wrong = 0;
    private int calls = 0;

    void due(String call, long got, long want) {
        calls++;
        if (got == want) return;
        wrong++;
        System.out.println(call + " answered " + got + ", due is " + want);
    }

    /** Prints how it went; ends with exit code 1 if an answer was wrong. */
    void end() {
        System.out.println(calls + " answers, " + wrong + " not as due");
        if (wrong != 0) System.exit(1);
    }

    /** Sheet k becomes a row of bytes that is this text. */
    static void write(Counted x, int k, String text) {
        x.sheet(k, 0, text.length());
        for (int i = 0; i < text.length(); i++) x.put(k, i, text.charAt(i));
    }

    /** What house() answers to a text, written on sheet 3. */
    static int build(Counted x, String text) {
        write(x, 3, text);
        return x.house(3, 0, 0, text.length());
    }

    /** Sheet k becomes a row of ints. */
    static void row(Counted x, int k, int... cells) {
        x.sheet(k, 2, cells.length);
        for (int i = 0; i < cells.length; i++) x.put(k, i, cells[i]);
    }

    /** A text of a house in which all sides are alike. */
    static String all(int w, int h, char kind) {
        StringBuilder text = new StringBuilder().append('w').append(w).append('h').append(h).append(';');
        for (int k = 0; k < 3 * w * h + w + h; k++) text.append(kind);
        return text.toString();
    }

    /** A text, some of whose sides are of another kind. */
    static String with(String text, char kind, int... sides) {
        StringBuilder changed = new StringBuilder(text);
        for (int k : sides) changed.setCharAt(5 + k, kind);
        return changed.toString();
    }
}
