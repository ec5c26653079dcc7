/** Promises 6 to 14: pane, word, view, seen, read, together, readTogether, viewsFor, pairFor. */
public final class PanesTest {
    private static final Due D = new Due("PanesTest");
    private static final int LEAST = Integer.MIN_VALUE;
    private static final int MOST = Integer.MAX_VALUE;

    /** Words two and three have the same strokes; word four has none. */
    private static final String CITY = "city wide 3 high 2 hail 10 ice 5"
            + ";pane p plain xoo,oox;pane q thick oxo,oxo;pane r ice xxx,ooo;pane s plain ooo,ooo"
            + ";word a xoo,ooo;word b xxo,oxx;word c xxx,ooo;word d xxx,ooo;word e ooo,ooo"
            + ";view u ooo,oox;view v xxx,ooo;view w ooo,ooo";

    public static void main(String[] args) {
        pane();
        wordAndView();
        seen();
        read();
        together();
        viewsFor();
        pairFor();
        D.end();
    }

    private static void pane() {
        GlassPost g = Due.of(CITY);
        D.fine(g, "kind plain", g.pane(0, 0), 0);
        D.fine(g, "kind thick", g.pane(1, 0), 1);
        D.fine(g, "kind ice", g.pane(2, 0), 2);
        D.fine(g, "strokes: the lowest bit is cell 0, row by row", g.pane(0, 1), 1 | 1 << 5);
        D.fine(g, "strokes of q", g.pane(1, 1), 1 << 1 | 1 << 4);
        D.fine(g, "no putty", g.pane(0, 2), 0);
        D.fine(g, "not broken", g.pane(0, 3), 0);
        D.fine(g, "light", g.pane(2, 4), 3);
        D.fine(g, "light of all cells", g.pane(3, 4), 6);
        g.scratch(0, 4);
        g.cover(0, 0);
        g.cover(0, 3);
        D.fine(g, "strokes now", g.pane(0, 1), 1 | 1 << 4 | 1 << 5);
        D.fine(g, "putty now", g.pane(0, 2), 1 | 1 << 3);
        D.fine(g, "light now, putty is no matter", g.pane(0, 4), 3);
        g.breaks(0);
        D.fine(g, "broken", g.pane(0, 3), 1);
        D.fine(g, "strokes of a broken one", g.pane(0, 1), 1 | 1 << 4 | 1 << 5);
        D.fine(g, "light of a broken one", g.pane(0, 4), 3);
        for (int p : new int[] {-1, 4, LEAST, MOST}) {
            D.refused(g, "pane(" + p + ", 0)", g.pane(p, 0), 1);
        }
        for (int what : new int[] {-1, 5, LEAST, MOST}) {
            D.refused(g, "pane(0, " + what + ")", g.pane(0, what), 1);
        }
    }

    private static void wordAndView() {
        GlassPost g = Due.of(CITY);
        D.fine(g, "word(0)", g.word(0), 1);
        D.fine(g, "word(1)", g.word(1), 1 | 2 | 1 << 4 | 1 << 5);
        D.fine(g, "word(4)", g.word(4), 0);
        D.fine(g, "view(0)", g.view(0), 1 << 5);
        D.fine(g, "view(1)", g.view(1), 7);
        for (int i : new int[] {-1, -2, 5, 8, LEAST, MOST}) {
            D.refused(g, "word(" + i + ")", g.word(i), 1);
        }
        for (int i : new int[] {-1, -2, 3, 6, LEAST, MOST}) {
            D.refused(g, "view(" + i + ")", g.view(i), 1);
        }
    }

    private static void seen() {
        GlassPost g = Due.of(CITY);
        D.fine(g, "seen against none", g.seen(0, -2), 33);
        D.fine(g, "seen against u", g.seen(0, 0), 1);
        D.fine(g, "seen against v", g.seen(0, 1), 32);
        D.fine(g, "seen against w", g.seen(0, 2), 33);
        g.cover(0, 5);
        D.fine(g, "puttied cells are not seen", g.seen(0, -2), 1);
        D.fine(g, "nothing is seen", g.seen(0, 1), 0);
        sightRefused(g, "seen", -1);
    }

    private static void sightRefused(GlassPost g, String call, int none) {
        for (int view : new int[] {-1, -3, 3, LEAST, MOST}) {
            D.refused(g, call + " against " + view, call.equals("seen") ? g.seen(0, view) : g.read(0, view), 1);
        }
        for (int p : new int[] {-1, -2, 4, LEAST, MOST}) {
            D.refused(g, call + " of " + p, call.equals("seen") ? g.seen(p, -2) : g.read(p, -2), 1);
        }
        g.breaks(0);
        D.refused(g, call + " of a broken one", call.equals("seen") ? g.seen(0, -2) : g.read(0, -2), 5);
        D.refused(g, call + " of a broken one, no view", call.equals("seen") ? g.seen(0, 9) : g.read(0, 9), 1);
    }

    private static void read() {
        GlassPost g = Due.of(CITY);
        D.fine(g, "read none", g.read(0, -2), -2);
        D.fine(g, "read a against u", g.read(0, 0), 0);
        D.fine(g, "read the first of like words", g.read(2, -2), 2);
        D.fine(g, "read the word without strokes", g.read(2, 1), 4);
        D.fine(g, "read the word without strokes against none", g.read(3, -2), 4);
        g.cover(0, 5);
        D.fine(g, "read behind putty", g.read(0, -2), 0);
        sightRefused(g, "read", -1);
    }

    private static void together() {
        GlassPost g = Due.of(CITY);
        D.fine(g, "together(0, 1)", g.together(0, 1), 1 | 2 | 1 << 4 | 1 << 5);
        D.fine(g, "together(1, 0)", g.together(1, 0), 1 | 2 | 1 << 4 | 1 << 5);
        D.fine(g, "readTogether(0, 1)", g.readTogether(0, 1), 1);
        D.fine(g, "readTogether(1, 0)", g.readTogether(1, 0), 1);
        D.fine(g, "readTogether(2, 3), the first", g.readTogether(2, 3), 2);
        D.fine(g, "readTogether(0, 2)", g.readTogether(0, 2), -2);
        g.scratch(3, 0);
        g.cover(0, 0);
        D.fine(g, "a stroke shows where only the other is puttied", g.together(0, 3), 1 | 1 << 5);
        g.cover(3, 0);
        D.fine(g, "but not where both are", g.together(0, 3), 1 << 5);
        for (int q : new int[] {-1, 0, 4, LEAST, MOST}) {
            D.refused(g, "together(0, " + q + ")", g.together(0, q), 1);
            D.refused(g, "together(" + q + ", 0)", g.together(q, 0), 1);
            D.refused(g, "readTogether(0, " + q + ")", g.readTogether(0, q), 1);
            D.refused(g, "readTogether(" + q + ", 0)", g.readTogether(q, 0), 1);
        }
        g.breaks(2);
        D.refused(g, "the one is broken", g.together(2, 1), 5);
        D.refused(g, "the other one is", g.together(1, 2), 5);
        D.refused(g, "readTogether likewise", g.readTogether(2, 1), 5);
        D.refused(g, "readTogether likewise", g.readTogether(1, 2), 5);
        D.refused(g, "a broken one with itself", g.together(2, 2), 1);
    }

    private static void viewsFor() {
        GlassPost g = Due.of(CITY);
        D.fine(g, "viewsFor(0, 0)", g.viewsFor(0, 0), 1);
        D.fine(g, "viewsFor(2, 2)", g.viewsFor(2, 2), 1 | 4);
        D.fine(g, "the later of like words is not read", g.viewsFor(2, 3), 0);
        D.fine(g, "viewsFor(2, 4)", g.viewsFor(2, 4), 2);
        D.fine(g, "viewsFor(3, 4)", g.viewsFor(3, 4), 7);
        D.fine(g, "viewsFor(1, 4)", g.viewsFor(1, 4), 0);
        for (int i : new int[] {-1, -2, 5, LEAST, MOST}) {
            D.refused(g, "viewsFor(0, " + i + ")", g.viewsFor(0, i), 1);
            D.refused(g, "viewsFor(" + i + ", 0)", g.viewsFor(i, 0), 1);
        }
        g.breaks(0);
        D.refused(g, "viewsFor of a broken one", g.viewsFor(0, 0), 5);
        D.refused(g, "viewsFor of a broken one, no word", g.viewsFor(0, 5), 1);
    }

    private static void pairFor() {
        GlassPost g = Due.of(CITY);
        D.fine(g, "pairFor(1)", g.pairFor(1), 1);
        D.fine(g, "pairFor(2)", g.pairFor(2), 23);
        D.fine(g, "pairFor(3): just its strokes", g.pairFor(3), 23);
        D.fine(g, "pairFor(0)", g.pairFor(0), -2);
        D.fine(g, "pairFor(4)", g.pairFor(4), -2);
        for (int cell = 0; cell < 6; cell++) {
            if (cell != 0 && cell != 5) {
                g.scratch(0, cell);
            }
        }
        for (int cell : new int[] {3, 4, 5}) {
            g.cover(0, cell);
        }
        D.fine(g, "the first by the lesser, then the greater", g.pairFor(2), 2);
        g.breaks(2);
        D.fine(g, "a broken one is left out", g.pairFor(2), 3);
        g.breaks(0);
        D.fine(g, "no pair any more", g.pairFor(2), -2);
        for (int i : new int[] {-1, -2, 5, LEAST, MOST}) {
            D.refused(g, "pairFor(" + i + ")", g.pairFor(i), 1);
        }
    }
}
