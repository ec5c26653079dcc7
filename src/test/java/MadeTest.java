/** Promises 25 to 30: made, madeOf, putty, puttyOf, scratches, could. */
public final class MadeTest {
    private static final Due D = new Due("MadeTest");
    private static final int LEAST = Integer.MIN_VALUE;
    private static final int MOST = Integer.MAX_VALUE;

    public static void main(String[] args) {
        made();
        madeRefused();
        putty();
        puttyFirstByCells();
        puttyThreeAndNotEnough();
        scratches();
        could();
        D.end();
    }

    private static void pair(GlassPost g, int[] of, int strokes, int one, int other) {
        String call = "made(" + of[0] + ", " + of[1] + ", " + of[2] + ", " + of[3] + ", " + of[4] + ")";
        D.fine(g, call, g.made(of[0], of[1], of[2], of[3], of[4]), strokes);
        if (strokes == -2) {
            D.refused(g, call + " the one", g.madeOf(of[0], of[1], of[2], of[3], of[4], false), 6);
            D.refused(g, call + " the other one", g.madeOf(of[0], of[1], of[2], of[3], of[4], true), 6);
        } else {
            D.fine(g, call + " the one", g.madeOf(of[0], of[1], of[2], of[3], of[4], false), one);
            D.fine(g, call + " the other one", g.madeOf(of[0], of[1], of[2], of[3], of[4], true), other);
        }
    }

    /** Words: 0 cell 0, 1 cell 1, 2 all, 3 nothing, 4 cells 0 and 1. Views: 0 cells 2 and 3 dark, 1 all, 2 cell 3. */
    private static GlassPost pairs() {
        return Due.of(Due.HEAD + ";pane p plain oo,oo;word a xo,oo;word b ox,oo;word c xx,xx;word d oo,oo;word e xx,oo"
                + ";view low oo,xx;view all xx,xx;view last oo,ox");
    }

    private static void made() {
        GlassPost g = pairs();
        pair(g, new int[] {0, 0, 1, -2, 2}, 4, 13, 2);
        pair(g, new int[] {0, -2, 1, 0, 2}, 4, 1, 14);
        pair(g, new int[] {0, 0, 1, 0, 2}, 4, 1, 14);
        pair(g, new int[] {0, 0, 1, 2, 2}, 4, 5, 10);
        pair(g, new int[] {0, 2, 1, 0, 2}, 4, 1, 14);
        pair(g, new int[] {0, 2, 1, 2, 2}, -2, 0, 0);
        pair(g, new int[] {0, -2, 1, -2, 2}, -2, 0, 0);
        pair(g, new int[] {0, -2, 1, -2, 4}, 2, 1, 2);
        pair(g, new int[] {3, 1, 3, 1, 2}, 4, 0, 15);
        pair(g, new int[] {3, 1, 3, -2, 2}, 4, 15, 0);
        pair(g, new int[] {3, -2, 3, -2, 3}, 0, 0, 0);
        pair(g, new int[] {0, 1, 1, -2, 2}, -2, 0, 0);
        pair(g, new int[] {0, -2, 1, 1, 2}, -2, 0, 0);
        pair(g, new int[] {4, 0, 4, 0, 4}, 4, 3, 3);
        pair(g, new int[] {4, 0, 4, 0, 0}, -2, 0, 0);
        pair(g, new int[] {0, 0, 3, 1, 3}, -2, 0, 0);
        pair(g, new int[] {2, -2, 3, 1, 2}, 4, 15, 0);
        pair(g, new int[] {2, -2, 3, -2, 2}, 4, 15, 0);
    }

    private static void madeRefused() {
        GlassPost g = pairs();
        for (int bad : new int[] {-1, -2, 5, 8, LEAST, MOST}) {
            D.refused(g, "made first " + bad, g.made(bad, -2, 0, -2, 0), 1);
            D.refused(g, "made second " + bad, g.made(0, -2, bad, -2, 0), 1);
            D.refused(g, "made third " + bad, g.made(0, -2, 0, -2, bad), 1);
            D.refused(g, "madeOf first " + bad, g.madeOf(bad, -2, 0, -2, 0, true), 1);
            D.refused(g, "madeOf second " + bad, g.madeOf(0, -2, bad, -2, 0, true), 1);
            D.refused(g, "madeOf third " + bad, g.madeOf(0, -2, 0, -2, bad, false), 1);
        }
        for (int bad : new int[] {-1, -3, 3, 6, LEAST, MOST}) {
            D.refused(g, "made view " + bad, g.made(0, bad, 0, -2, 0), 1);
            D.refused(g, "made other " + bad, g.made(0, -2, 0, bad, 0), 1);
            D.refused(g, "madeOf view " + bad, g.madeOf(0, bad, 0, -2, 0, true), 1);
            D.refused(g, "madeOf other " + bad, g.madeOf(0, -2, 0, bad, 0, false), 1);
        }
    }

    private static void puttied(GlassPost g, int p, int view, int many, int cells) {
        D.fine(g, "putty(" + p + ", " + view + ")", g.putty(p, view), many);
        D.fine(g, "puttyOf(" + p + ", " + view + ")", g.puttyOf(p, view), cells);
    }

    private static void putty() {
        GlassPost g = Due.of(Due.HEAD + ";pane p plain xx,xo;pane q plain oo,oo;word a xx,xo;word b xo,oo;word c ox,oo"
                + ";view none oo,oo;view low oo,xx;view all xx,xx");
        puttied(g, 0, -2, 1, 1);
        puttied(g, 0, 0, 1, 1);
        puttied(g, 0, 1, 0, 0);
        puttied(g, 0, 2, 0, 0);
        puttied(g, 1, -2, 0, 0);
        g.cover(0, 2);
        puttied(g, 0, -2, 0, 0);
        g.cover(0, 0);
        puttied(g, 0, -2, 1, 2);
        for (int bad : new int[] {-1, -3, 3, LEAST, MOST}) {
            D.refused(g, "putty(0, " + bad + ")", g.putty(0, bad), 1);
            D.refused(g, "putty(" + bad + ", 0)", g.putty(bad, 0), 1);
            D.refused(g, "puttyOf(0, " + bad + ")", g.puttyOf(0, bad), 1);
            D.refused(g, "puttyOf(" + bad + ", 0)", g.puttyOf(bad, 0), 1);
        }
        g.breaks(0);
        D.refused(g, "putty of a broken one", g.putty(0, -2), 5);
        D.refused(g, "puttyOf a broken one", g.puttyOf(0, -2), 5);
        D.refused(g, "a broken one, no view", g.putty(0, 3), 1);
        D.refused(g, "a broken one, no view", g.puttyOf(0, 3), 1);
    }

    /** Cells 0 and 3 come ahead of 1 and 2, though their bits are more. */
    private static void puttyFirstByCells() {
        GlassPost g = Due.of(Due.HEAD + ";pane p plain xx,xx;word a xx,xx;word b ox,xx;word c xo,xx;word d xx,ox"
                + ";word e xx,xo;word f oo,xx;word h ox,ox");
        puttied(g, 0, -2, 2, 1 | 8);
    }

    private static void puttyThreeAndNotEnough() {
        String words = ";word a xx,xo;word b xx,oo;word c xo,xo;word d ox,xo;word e xo,oo;word f ox,oo;word h oo,xo";
        GlassPost g = Due.of(Due.HEAD + ";pane p plain xx,xo" + words + ";view v oo,xo");
        puttied(g, 0, -2, 3, 7);
        puttied(g, 0, 0, 2, 3);
        GlassPost all = Due.of(Due.HEAD + ";pane p plain xx,xo;pane q ice oo,oo" + words + ";word i oo,oo");
        puttied(all, 0, -2, -2, 0);
        puttied(all, 1, -2, -2, 0);
    }

    private static void scratches() {
        GlassPost g = Due.of(Due.HEAD + ";pane p plain xo,oo;word a xx,xx;word b xo,oo;word c oo,xx;word d oo,oo"
                + ";word e xx,oo;word f ox,oo;view low oo,xx;view first xo,oo");
        D.fine(g, "three must come", g.scratches(0, -2, 0), 3);
        D.fine(g, "none must come", g.scratches(0, -2, 1), 0);
        D.fine(g, "one is too many", g.scratches(0, -2, 2), -2);
        D.fine(g, "one is too many for nothing", g.scratches(0, -2, 3), -2);
        D.fine(g, "dark cells do not show", g.scratches(0, 0, 0), -2);
        D.fine(g, "dark cells need not show", g.scratches(0, 0, 4), 1);
        D.fine(g, "a dark stroke is not too many", g.scratches(0, 1, 2), 2);
        D.fine(g, "a dark stroke can't be", g.scratches(0, 1, 4), -2);
        D.fine(g, "nothing is there already", g.scratches(0, 1, 3), 0);
        g.cover(0, 1);
        D.fine(g, "a puttied cell does not show", g.scratches(0, -2, 4), -2);
        D.fine(g, "a puttied cell need not show", g.scratches(0, -2, 1), 0);
        g.cover(0, 0);
        D.fine(g, "a puttied stroke is not too many", g.scratches(0, -2, 2), 2);
        for (int bad : new int[] {-1, -3, 6, LEAST, MOST}) {
            D.refused(g, "scratches of " + bad, g.scratches(bad, -2, 0), 1);
            D.refused(g, "scratches against " + bad, g.scratches(0, bad, 0), 1);
            D.refused(g, "scratches for " + bad, g.scratches(0, -2, bad), 1);
        }
        D.refused(g, "no word of -2", g.scratches(0, -2, -2), 1);
        g.breaks(0);
        D.refused(g, "scratches of a broken one", g.scratches(0, -2, 0), 5);
        D.refused(g, "a broken one, no word", g.scratches(0, -2, 6), 1);
    }

    private static void could() {
        GlassPost g = Due.of(Due.HEAD + ";pane p plain xo,oo;pane q plain oo,oo;word a xx,xx;word b xo,oo;word c oo,xx"
                + ";word d oo,oo;word e xx,oo;word f ox,oo;view low oo,xx;view first xo,oo");
        D.fine(g, "could(0, -2)", g.could(0, -2), 1 | 2 | 16);
        D.fine(g, "could(0, 0)", g.could(0, 0), 2 | 16);
        D.fine(g, "could(0, 1)", g.could(0, 1), 4 | 8 | 32);
        D.fine(g, "could(1, -2)", g.could(1, -2), 63);
        g.cover(1, 0);
        D.fine(g, "could of a puttied one", g.could(1, -2), 4 | 8 | 32);
        for (int bad : new int[] {-1, -3, 2, LEAST, MOST}) {
            D.refused(g, "could(" + bad + ", -2)", g.could(bad, -2), 1);
            D.refused(g, "could(0, " + bad + ")", g.could(0, bad), 1);
        }
        g.breaks(0);
        D.refused(g, "could of a broken one", g.could(0, -2), 5);
        D.refused(g, "a broken one, no view", g.could(0, 2), 1);
    }
}
