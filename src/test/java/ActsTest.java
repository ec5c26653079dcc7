/** Promises 43 to 48: scratch, cover, breaks, undo, mark, back. */
public final class ActsTest {
    private static final Due D = new Due("ActsTest");
    private static final int LEAST = Integer.MIN_VALUE;
    private static final int MOST = Integer.MAX_VALUE;

    private static final String CITY = "city wide 5 high 4 hail 10 ice 5;pane p plain ooooo,ooooo,ooooo,ooooo"
            + ";pane q thick xoooo,ooooo,ooooo,oooox;pane r ice ooooo,ooooo,ooooo,ooooo";

    public static void main(String[] args) {
        scratch();
        cover();
        breaks();
        undo();
        sixteenAreKept();
        sixteenOfAllSorts();
        marks();
        backAndUndo();
        D.end();
    }

    private static void state(GlassPost g, String when, int p, int strokes, int putty, int broken) {
        D.due("strokes " + when, g.pane(p, 1), strokes);
        D.due("putty " + when, g.pane(p, 2), putty);
        D.due("broken " + when, g.pane(p, 3), broken);
    }

    private static void scratch() {
        GlassPost g = Due.of(CITY);
        D.told(g, "scratch(0, 0)", g.scratch(0, 0), true, 0);
        D.told(g, "scratch(0, 19)", g.scratch(0, 19), true, 0);
        state(g, "scratched", 0, 1 | 1 << 19, 0, 0);
        D.told(g, "there is a stroke", g.scratch(0, 19), false, 5);
        D.told(g, "there is one as told", g.scratch(1, 0), false, 5);
        D.told(g, "a thick one", g.scratch(1, 1), true, 0);
        g.cover(2, 3);
        D.told(g, "below putty", g.scratch(2, 3), true, 0);
        state(g, "below putty", 2, 8, 8, 0);
        D.due("it isn't seen", g.seen(2, -2), 0);
        for (int bad : new int[] {-1, 20, 32, LEAST, MOST}) {
            D.told(g, "scratch(0, " + bad + ")", g.scratch(0, bad), false, 1);
            D.told(g, "scratch(" + bad + ", 1)", g.scratch(bad, 1), false, 1);
        }
        g.breaks(0);
        D.told(g, "it is broken", g.scratch(0, 5), false, 5);
        D.told(g, "it is broken, no cell", g.scratch(0, 20), false, 1);
        D.due("acts", g.size(13), 6);
        state(g, "at the end", 0, 1 | 1 << 19, 0, 1);
    }

    private static void cover() {
        GlassPost g = Due.of(CITY);
        D.told(g, "cover(0, 0)", g.cover(0, 0), true, 0);
        D.told(g, "cover(0, 19)", g.cover(0, 19), true, 0);
        state(g, "covered", 0, 0, 1 | 1 << 19, 0);
        D.told(g, "puttied there", g.cover(0, 0), false, 5);
        D.told(g, "a thick one", g.cover(1, 0), true, 0);
        D.due("its stroke isn't seen", g.seen(1, -2), 1 << 19);
        for (int bad : new int[] {-1, 20, 32, LEAST, MOST}) {
            D.told(g, "cover(0, " + bad + ")", g.cover(0, bad), false, 1);
            D.told(g, "cover(" + bad + ", 1)", g.cover(bad, 1), false, 1);
        }
        g.breaks(0);
        D.told(g, "it is broken", g.cover(0, 5), false, 5);
        D.told(g, "it is broken, no cell", g.cover(0, 20), false, 1);
        D.due("acts", g.size(13), 4);
    }

    private static void breaks() {
        GlassPost g = Due.of(CITY);
        D.told(g, "breaks(0)", g.breaks(0), true, 0);
        state(g, "broken", 0, 0, 0, 1);
        state(g, "not broken", 2, 0, 0, 0);
        D.told(g, "it is broken", g.breaks(0), false, 5);
        D.told(g, "thick", g.breaks(1), false, 5);
        D.told(g, "ice", g.breaks(2), true, 0);
        for (int bad : new int[] {-1, 3, 8, LEAST, MOST}) {
            D.told(g, "breaks(" + bad + ")", g.breaks(bad), false, 1);
        }
        D.due("acts", g.size(13), 2);
    }

    private static void undo() {
        GlassPost g = Due.of(CITY);
        D.told(g, "nothing to undo", g.undo(), false, 6);
        g.scratch(0, 3);
        g.cover(0, 3);
        g.scratch(0, 4);
        g.breaks(0);
        g.scratch(0, 5);
        D.due("a refused one is no act", g.size(13), 4);
        D.told(g, "undo the break", g.undo(), true, 0);
        state(g, "not broken any more", 0, 8 | 16, 8, 0);
        D.told(g, "undo the second stroke", g.undo(), true, 0);
        state(g, "without it", 0, 8, 8, 0);
        D.told(g, "undo the putty", g.undo(), true, 0);
        state(g, "without it", 0, 8, 0, 0);
        g.cover(2, 7);
        D.due("acts", g.size(13), 2);
        D.told(g, "undo the latest", g.undo(), true, 0);
        state(g, "of the other pane", 2, 0, 0, 0);
        D.told(g, "undo the first", g.undo(), true, 0);
        state(g, "as told", 0, 0, 0, 0);
        D.told(g, "nothing left", g.undo(), false, 6);
        D.due("acts", g.size(13), 0);
    }

    private static void sixteenAreKept() {
        GlassPost g = Due.of(CITY);
        for (int cell = 0; cell < 19; cell++) {
            g.scratch(0, cell);
            D.due("acts behind " + (cell + 1), g.size(13), Math.min(cell + 1, 16));
        }
        for (int i = 1; i <= 16; i++) {
            D.told(g, "undo " + i, g.undo(), true, 0);
            D.due("strokes behind undo " + i, g.pane(0, 1), (1 << (19 - i)) - 1);
        }
        D.told(g, "no more is kept", g.undo(), false, 6);
        state(g, "three stay", 0, 7, 0, 0);
    }

    private static void sixteenOfAllSorts() {
        GlassPost g = Due.of(CITY);
        g.scratch(2, 19);
        g.cover(0, 19);
        for (int cell = 0; cell < 5; cell++) {
            g.scratch(0, cell);
            g.cover(1, cell + 5);
            g.scratch(2, cell + 10);
        }
        g.breaks(0);
        D.due("acts", g.size(13), 16);
        D.told(g, "undo the break", g.undo(), true, 0);
        state(g, "of p", 0, 31, 1 << 19, 0);
        for (int cell = 4; cell >= 0; cell--) {
            g.undo();
            D.due("strokes of r", g.pane(2, 1), (((1 << cell) - 1) << 10) | 1 << 19);
            g.undo();
            D.due("putty of q", g.pane(1, 2), ((1 << cell) - 1) << 5);
            g.undo();
            D.due("strokes of p", g.pane(0, 1), (1 << cell) - 1);
        }
        D.told(g, "the first two stay", g.undo(), false, 6);
        state(g, "of p at the end", 0, 0, 1 << 19, 0);
        state(g, "of r at the end", 2, 1 << 19, 0, 0);
    }

    private static void marks() {
        GlassPost g = Due.of(CITY);
        D.told(g, "no mark yet", g.back(0), false, 1);
        D.fine(g, "mark 0", g.mark(), 0);
        g.scratch(0, 1);
        g.cover(2, 2);
        D.fine(g, "mark 1", g.mark(), 1);
        g.breaks(0);
        g.breaks(2);
        D.told(g, "no mark 2 yet", g.back(2), false, 1);
        D.fine(g, "mark 2", g.mark(), 2);
        D.due("marks", g.size(14), 3);
        D.refused(g, "no room for another", g.mark(), 3);
        D.due("marks", g.size(14), 3);
        D.told(g, "back(1)", g.back(1), true, 0);
        state(g, "of p by mark 1", 0, 2, 0, 0);
        state(g, "of r by mark 1", 2, 0, 4, 0);
        D.told(g, "back(2)", g.back(2), true, 0);
        state(g, "of p by mark 2", 0, 2, 0, 1);
        state(g, "of r by mark 2", 2, 0, 4, 1);
        D.told(g, "back(0)", g.back(0), true, 0);
        state(g, "of p by mark 0", 0, 0, 0, 0);
        state(g, "of r by mark 0", 2, 0, 0, 0);
        state(g, "of q by mark 0", 1, 1 | 1 << 19, 0, 0);
        D.due("all marks stay", g.size(14), 3);
        D.told(g, "back(1) again", g.back(1), true, 0);
        state(g, "of p by mark 1 again", 0, 2, 0, 0);
        D.refused(g, "still no room", g.mark(), 3);
        for (int bad : new int[] {-1, 3, LEAST, MOST}) {
            D.told(g, "back(" + bad + ")", g.back(bad), false, 1);
        }
    }

    private static void backAndUndo() {
        GlassPost g = Due.of(CITY);
        g.scratch(0, 1);
        D.fine(g, "mark 0", g.mark(), 0);
        D.due("a mark leaves the acts", g.size(13), 1);
        g.scratch(0, 2);
        D.told(g, "undo past the mark", g.undo(), true, 0);
        D.told(g, "undo past the mark", g.undo(), true, 0);
        state(g, "as told", 0, 0, 0, 0);
        g.scratch(0, 7);
        D.told(g, "a refused back changes nothing", g.back(1), false, 1);
        D.due("acts", g.size(13), 1);
        D.told(g, "back(0)", g.back(0), true, 0);
        state(g, "by the mark", 0, 2, 0, 0);
        D.due("nothing can be undone", g.size(13), 0);
        D.told(g, "nothing can be undone", g.undo(), false, 6);
        g.scratch(0, 3);
        D.told(g, "but later acts can", g.undo(), true, 0);
        state(g, "by the mark", 0, 2, 0, 0);
    }
}
