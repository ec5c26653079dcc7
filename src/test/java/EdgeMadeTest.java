/** The edges of promises 25 to 30, sentence by sentence, with those of term III that are about made panes. */
public final class EdgeMadeTest {
    private static final Due D = new Due("EdgeMadeTest");
    private static final int ALL = Full.ALL;
    private static final int LAST = 1 << 19;
    private static final int[] FAR = {-1, -3, 8, 9, 31, 32, 33, 1 << 20, Due.LEAST, Due.LEAST + 1, Due.MOST, Due.MOST - 1};

    /** Words: 0 nothing, 1 cell 0, 2 cell 1, 3 cells 0 and 1, 4 all, 5 nothing again. Views: 0 clear, 1 all, 2 low, 3 cell 3. */
    private static final String PAIRS = Due.HEAD + ";pane p plain oo,oo;word n oo,oo;word a xo,oo;word b ox,oo;word c xx,oo"
            + ";word d xx,xx;word e oo,oo;view clear oo,oo;view all xx,xx;view low oo,xx;view last oo,ox";

    public static void main(String[] args) {
        madeOfWords();
        madeOrNone();
        fewestStrokes();
        leastBits();
        madeOfTwenty();
        made();
        madeRefused();
        madeOf();
        madeOfRefused();
        fewestCells();
        firstByCells();
        fourAreNotEnough();
        puttyNow();
        putty();
        puttyRefused();
        puttyOf();
        puttyOfRefused();
        strokesMustCome();
        thatCannotBe();
        scratches();
        scratchesRefused();
        could();
        couldRefused();
        D.end();
    }

    private static void pair(GlassPost g, int[] of, int strokes, int one, int other) {
        String call = "(" + of[0] + ", " + of[1] + ", " + of[2] + ", " + of[3] + ", " + of[4] + ")";
        D.fine(g, "made" + call, g.made(of[0], of[1], of[2], of[3], of[4]), strokes);
        D.fine(g, "madeOf" + call, g.madeOf(of[0], of[1], of[2], of[3], of[4], false), one);
        D.fine(g, "madeOf" + call + " other", g.madeOf(of[0], of[1], of[2], of[3], of[4], true), other);
    }

    private static void noPair(GlassPost g, int... of) {
        String call = "(" + of[0] + ", " + of[1] + ", " + of[2] + ", " + of[3] + ", " + of[4] + ")";
        D.fine(g, "made" + call, g.made(of[0], of[1], of[2], of[3], of[4]), -2);
        D.refused(g, "madeOf" + call, g.madeOf(of[0], of[1], of[2], of[3], of[4], false), 6);
        D.refused(g, "madeOf" + call + " other", g.madeOf(of[0], of[1], of[2], of[3], of[4], true), 6);
    }

    private static void madeOfWords() {
        D.says("III", "MADE: of three words and two VIEWS (or none): two panes: the one is READ as strokes of the first word against the first VIEW, the other one as those of the second against the second VIEW, laid together (without any VIEW) as those of the third:");
        GlassPost g = Due.of(PAIRS);
        pair(g, new int[] {1, 0, 2, 0, 3}, 2, 1, 2);
        pair(g, new int[] {1, 2, 2, 0, 4}, 4, 13, 2);
        pair(g, new int[] {1, 0, 2, 2, 4}, 4, 1, 14);
        noPair(g, 1, 0, 2, 0, 4);
        noPair(g, 1, 1, 2, 0, 3);
        noPair(g, 1, 0, 2, 1, 3);
        noPair(g, 1, 2, 2, 0, 1);
        noPair(g, 1, 2, 2, 2, 0);
        noPair(g, 3, 2, 2, 2, 2);
        pair(g, new int[] {5, 0, 0, 0, 5}, 0, 0, 0);
    }

    private static void madeOrNone() {
        D.says("III", "two VIEWS (or none)");
        GlassPost g = Due.of(PAIRS);
        pair(g, new int[] {1, -2, 2, -2, 3}, 2, 1, 2);
        pair(g, new int[] {1, -2, 2, 2, 4}, 4, 1, 14);
        pair(g, new int[] {1, 2, 2, -2, 4}, 4, 13, 2);
        noPair(g, 1, -2, 2, -2, 4);
        noPair(g, 1, -2, 2, -2, 1);
        GlassPost bare = Due.of(Due.SMALL + ";word a xo,ox");
        pair(bare, new int[] {0, -2, 0, -2, 0}, 4, 9, 9);
    }

    private static void fewestStrokes() {
        D.says("III", "the fewest strokes of both;");
        GlassPost g = Due.of(PAIRS);
        pair(g, new int[] {0, 1, 0, 1, 4}, 4, 0, 15);
        pair(g, new int[] {0, 1, 0, 1, 0}, 0, 0, 0);
        pair(g, new int[] {0, 1, 3, 0, 3}, 2, 0, 3);
        pair(g, new int[] {3, 0, 3, 0, 3}, 4, 3, 3);
        pair(g, new int[] {3, 2, 1, 2, 3}, 3, 3, 1);
        pair(g, new int[] {3, 2, 1, 2, 4}, 5, 3, 13);
    }

    private static void leastBits() {
        D.says("III", "of like ones the least bits of the one, then of the other one.");
        GlassPost g = Due.of(PAIRS);
        pair(g, new int[] {1, 2, 2, 2, 4}, 4, 1, 14);
        pair(g, new int[] {1, 2, 2, 3, 4}, 4, 5, 10);
        pair(g, new int[] {1, 3, 2, 2, 4}, 4, 1, 14);
        noPair(g, 1, 3, 2, 3, 4);
        pair(g, new int[] {0, 1, 0, 3, 4}, 4, 7, 8);
        pair(g, new int[] {0, 1, 0, 2, 4}, 4, 3, 12);
    }

    private static void madeOfTwenty() {
        D.says("III", "the fewest strokes of both;");
        GlassPost g = Due.of(Full.LARGE);
        pair(g, new int[] {0, 1, 0, 1, 1}, 20, 0, ALL);
        pair(g, new int[] {1, -2, 1, -2, 1}, 40, ALL, ALL);
        pair(g, new int[] {2, -2, 0, 2, 2}, 1, LAST, 0);
        pair(g, new int[] {0, 2, 0, 2, 2}, 1, 0, LAST);
        pair(g, new int[] {0, 2, 0, -2, 2}, 1, LAST, 0);
        noPair(g, 2, 2, 0, -2, 2);
        noPair(g, 0, 3, 0, 3, 2);
        pair(g, new int[] {0, 1, 0, 3, 1}, 20, ALL & ~(31 << 10), 31 << 10);
    }

    private static void made() {
        D.says(25, "MADE: how many strokes; -2 it can't be.");
        GlassPost g = Due.of(Full.CITY);
        pair(g, new int[] {0, 0, 1, 0, 3}, 2, 1, 2);
        pair(g, new int[] {7, -2, 7, -2, 7}, 8, 15, 15);
        noPair(g, 7, 5, 7, -2, 7);
        g.breaks(0);
        pair(g, new int[] {0, 0, 1, 0, 3}, 2, 1, 2);
        pair(g, new int[] {0, 4, 6, 1, 7}, 4, 1, 14);
        noPair(g, 0, 4, 4, 1, 7);
    }

    private static void madeRefused() {
        D.says(25, "NONE: 1 (words; views).");
        GlassPost g = Due.of(Full.CITY);
        for (int far : FAR) {
            D.refused(g, "made first " + far, g.made(far, -2, 0, -2, 0), 1);
            D.refused(g, "made view " + far, g.made(0, far, 0, -2, 0), 1);
            D.refused(g, "made second " + far, g.made(0, -2, far, -2, 0), 1);
            D.refused(g, "made other " + far, g.made(0, -2, 0, far, 0), 1);
            D.refused(g, "made third " + far, g.made(0, -2, 0, -2, far), 1);
            D.refused(g, "made of " + far, g.made(far, far, far, far, far), 1);
        }
        D.refused(g, "-2 is no word", g.made(-2, -2, 0, -2, 0), 1);
        D.refused(g, "-2 is no word", g.made(0, -2, -2, -2, 0), 1);
        D.refused(g, "-2 is no word", g.made(0, -2, 0, -2, -2), 1);
        D.refused(g, "view 6", g.made(0, 6, 0, -2, 0), 1);
        D.refused(g, "view 7", g.made(0, -2, 0, 7, 0), 1);
        D.fine(g, "the last of all", g.made(7, 5, 7, 5, 7), -2);
        GlassPost bare = Due.of(Due.SMALL);
        D.refused(bare, "no words", bare.made(0, -2, 0, -2, 0), 1);
    }

    private static void madeOf() {
        D.says(26, "The one pane's strokes, or (other one) the other one's, as bits.");
        GlassPost g = Due.of(PAIRS);
        D.fine(g, "the one", g.madeOf(1, 2, 2, 0, 4, false), 13);
        D.fine(g, "the other one", g.madeOf(1, 2, 2, 0, 4, true), 2);
        D.fine(g, "the one of nothing", g.madeOf(0, 0, 0, 0, 0, false), 0);
        D.fine(g, "the other one of nothing", g.madeOf(0, 0, 0, 0, 0, true), 0);
        D.fine(g, "the first again: nothing is kept", g.madeOf(1, 2, 2, 0, 4, false), 13);
    }

    private static void madeOfRefused() {
        D.says(26, "NONE: likewise; 6 (it can't be).");
        GlassPost g = Due.of(Full.CITY);
        for (int far : FAR) {
            D.refused(g, "madeOf first " + far, g.madeOf(far, -2, 0, -2, 0, true), 1);
            D.refused(g, "madeOf view " + far, g.madeOf(0, far, 0, -2, 0, false), 1);
            D.refused(g, "madeOf second " + far, g.madeOf(0, -2, far, -2, 0, true), 1);
            D.refused(g, "madeOf other " + far, g.madeOf(0, -2, 0, far, 0, false), 1);
            D.refused(g, "madeOf third " + far, g.madeOf(0, -2, 0, -2, far, true), 1);
        }
        D.refused(g, "-2 is no word", g.madeOf(0, -2, 0, -2, -2, true), 1);
        D.refused(g, "view 6", g.madeOf(0, 6, 0, -2, 0, false), 1);
        D.refused(g, "it can't be, the one", g.madeOf(0, -2, 1, -2, 7, false), 6);
        D.refused(g, "it can't be, the other one", g.madeOf(0, -2, 1, -2, 7, true), 6);
        D.refused(g, "it can't be, and no word", g.madeOf(0, -2, 1, -2, 8, true), 1);
    }

    private static void puttied(GlassPost g, int p, int view, int many, int cells) {
        D.fine(g, "putty(" + p + ", " + view + ")", g.putty(p, view), many);
        D.fine(g, "puttyOf(" + p + ", " + view + ")", g.puttyOf(p, view), cells);
    }

    /** A pane of so many strokes, of which so many words can be read: all of fewest cells away first. */
    private static void fewestCells() {
        D.says("III", "PUTTY: the fewest cells of a pane (0 .. 4) to be PUTTIED so that against a VIEW no word is READ;");
        String pane = Due.HEAD + ";pane p plain xx,xo;view last oo,xo";
        GlassPost none = Due.of(pane + ";word a xx,oo");
        puttied(none, 0, -2, 0, 0);
        puttied(none, 0, 0, 1, 1);
        GlassPost one = Due.of(pane + ";word a xx,xo");
        puttied(one, 0, -2, 1, 1);
        puttied(one, 0, 0, 0, 0);
        String three = pane + ";word a xx,xo;word b ox,xo;word c xo,xo;word d xx,oo";
        GlassPost two = Due.of(three);
        puttied(two, 0, -2, 2, 3);
        GlassPost most = Due.of(three + ";word e xo,oo;word f ox,oo;word h oo,xo");
        puttied(most, 0, -2, 3, 7);
        puttied(most, 0, 0, 2, 3);
    }

    private static void firstByCells() {
        D.says("III", "of like ones the first by cells.");
        GlassPost g = Due.of(Due.HEAD + ";pane p plain xx,xx;word a xx,xx;word b ox,xx;word c xo,xx;word d xx,ox;word e xx,xo");
        puttied(g, 0, -2, 2, 1 | 2);
        GlassPost h = Due.of(Due.HEAD + ";pane p plain xx,xx;word a xx,xx;word b ox,xx;word c xo,xx;word d xx,ox;word e xx,xo"
                + ";word f oo,xx;word h ox,ox");
        puttied(h, 0, -2, 2, 1 | 8);
        GlassPost i = Due.of(Due.HEAD + ";pane p plain xx,xx;word a xx,xx;word b ox,xx;word c xo,xx;word d xx,ox;word e xx,xo"
                + ";word f oo,xx;word h ox,ox;word i ox,xo");
        puttied(i, 0, -2, 2, 2 | 4);
        GlassPost later = Due.of(Due.HEAD + ";pane p plain xx,xx;word a xx,xx;word b ox,xx;word c xo,xx;word d xx,ox");
        puttied(later, 0, -2, 1, 8);
        GlassPost large = Due.of(Full.LARGE);
        puttied(large, 1, -2, 1, 1);
        puttied(large, 2, -2, -2, 0);
    }

    /** Nothing is read as a word, too: with each set of three strokes or fewer a word, no putty helps. */
    private static void fourAreNotEnough() {
        D.says(27, "PUTTY; -2 four aren't enough.");
        String panes = Due.HEAD + ";pane n plain oo,oo;pane a plain xo,oo;pane b plain xx,oo;pane c plain xx,xo;pane d ice xx,xx";
        String words = ";word wa oo,oo";
        GlassPost zero = Due.of(panes + words);
        puttied(zero, 0, -2, -2, 0);
        puttied(zero, 1, -2, 0, 0);
        words += ";word wb xo,oo";
        GlassPost one = Due.of(panes + words);
        puttied(one, 1, -2, -2, 0);
        puttied(one, 2, -2, 0, 0);
        words += ";word wc ox,oo;word wd xx,oo";
        GlassPost two = Due.of(panes + words);
        puttied(two, 2, -2, -2, 0);
        puttied(two, 3, -2, 0, 0);
        words += ";word we oo,xo;word wf xo,xo;word wg ox,xo;word wh xx,xo";
        GlassPost three = Due.of(panes + words);
        puttied(three, 3, -2, -2, 0);
        puttied(three, 4, -2, 0, 0);
        three.cover(4, 3);
        puttied(three, 4, -2, -2, 0);
    }

    private static void puttyNow() {
        D.says("III", "PUTTY: the fewest cells of a pane (0 .. 4) to be PUTTIED");
        GlassPost g = Due.of(Full.LARGE);
        g.cover(1, 0);
        puttied(g, 1, -2, 0, 0);
        for (int cell = 1; cell < 16; cell++) {
            g.cover(1, cell);
        }
        puttied(g, 1, -2, 0, 0);
        g.cover(1, 16);
        g.cover(1, 17);
        g.cover(1, 18);
        D.fine(g, "the last cell alone is a word", g.read(1, -2), 2);
        puttied(g, 1, -2, -2, 0);
        puttied(g, 1, 2, -2, 0);
        D.due("no act was done by asking", g.pane(1, 2), LAST - 1);
    }

    private static void putty() {
        D.says(27, "PUTTY; -2 four aren't enough.");
        GlassPost g = Due.of(Full.CITY);
        int[] many = {1, 1, 1, 0, 2, 1, 1, 0};
        int[] cells = {1, 2, 4, 0, 3, 4, 2, 0};
        for (int p = 0; p < 8; p++) {
            puttied(g, p, -2, many[p], cells[p]);
            puttied(g, p, 5, 0, 0);
        }
    }

    private static void puttyRefused() {
        D.says(27, "NONE: 1; 5.");
        GlassPost g = Due.of(Full.CITY);
        for (int far : FAR) {
            D.refused(g, "putty(" + far + ", -2)", g.putty(far, -2), 1);
            D.refused(g, "putty(0, " + far + ")", g.putty(0, far), 1);
        }
        D.refused(g, "putty(0, 6)", g.putty(0, 6), 1);
        g.breaks(7);
        D.refused(g, "broken", g.putty(7, -2), 5);
        D.refused(g, "broken, and no view", g.putty(7, 6), 1);
        D.fine(g, "the one ahead of it", g.putty(6, 5), 0);
    }

    private static void puttyOf() {
        D.says(28, "Its cells, as bits (0: none, or it can't be).");
        GlassPost g = Due.of(Due.HEAD + ";pane p plain ox,ox;pane q plain oo,oo;pane r plain oo,xx;word a ox,ox;word n oo,oo");
        D.fine(g, "its cell", g.puttyOf(0, -2), 2);
        D.fine(g, "it can't be", g.puttyOf(1, -2), 0);
        D.fine(g, "none", g.puttyOf(2, -2), 0);
        GlassPost large = Due.of("city wide 5 high 4 hail 0 ice 1;pane p plain ooooo,ooooo,ooooo,oooox;word w ooooo,ooooo,ooooo,oooox");
        D.fine(large, "the last cell", large.puttyOf(0, -2), LAST);
    }

    private static void puttyOfRefused() {
        D.says(28, "NONE: likewise.");
        GlassPost g = Due.of(Full.CITY);
        for (int far : FAR) {
            D.refused(g, "puttyOf(" + far + ", -2)", g.puttyOf(far, -2), 1);
            D.refused(g, "puttyOf(0, " + far + ")", g.puttyOf(0, far), 1);
        }
        D.refused(g, "puttyOf(0, 6)", g.puttyOf(0, 6), 1);
        g.breaks(0);
        D.refused(g, "broken", g.puttyOf(0, -2), 5);
        D.refused(g, "broken, and no view", g.puttyOf(0, -1), 1);
    }

    private static void strokesMustCome() {
        D.says("III", "SCRATCHES: how many strokes must come to a pane so that against a VIEW it is just as a word's strokes;");
        GlassPost g = Due.of(Full.LARGE);
        D.fine(g, "all twenty", g.scratches(0, -2, 1), 20);
        D.fine(g, "none of twenty", g.scratches(1, -2, 1), 0);
        D.fine(g, "nineteen", g.scratches(3, -2, 1), 19);
        D.fine(g, "the last", g.scratches(0, -2, 2), 1);
        D.fine(g, "nothing to nothing", g.scratches(0, -2, 0), 0);
        D.fine(g, "all is dark, and so is the word of nothing", g.scratches(1, 1, 0), 0);
        D.fine(g, "a dark stroke is there", g.scratches(2, 2, 0), 0);
        g.cover(1, 19);
        D.fine(g, "a puttied stroke is there", g.scratches(1, -2, 1), -2);
    }

    private static void thatCannotBe() {
        D.says("III", "none, if that can't be.");
        GlassPost g = Due.of(Full.LARGE);
        D.fine(g, "one stroke too many", g.scratches(2, -2, 0), -2);
        D.fine(g, "another stroke", g.scratches(3, -2, 2), -2);
        D.fine(g, "one cell is dark", g.scratches(0, 2, 1), -2);
        D.fine(g, "the cell is dark", g.scratches(0, 2, 2), -2);
        D.fine(g, "all is dark", g.scratches(0, 1, 1), -2);
        g.cover(0, 19);
        D.fine(g, "the cell is puttied", g.scratches(0, -2, 2), -2);
        D.fine(g, "one cell is puttied", g.scratches(0, -2, 1), -2);
        D.fine(g, "nothing must come there", g.scratches(0, -2, 0), 0);
    }

    private static void scratches() {
        D.says(29, "SCRATCHES; -2.");
        GlassPost g = Due.of(Full.CITY);
        int[] due = {1, 1, 1, 2, 2, 3, 3, 4};
        for (int w = 0; w < 8; w++) {
            D.fine(g, "scratches(7, -2, " + w + ")", g.scratches(7, -2, w), due[w]);
            D.fine(g, "scratches(6, -2, " + w + ")", g.scratches(6, -2, w), w == 7 ? 0 : -2);
            D.fine(g, "scratches(6, 5, " + w + ")", g.scratches(6, 5, w), -2);
        }
        D.fine(g, "scratches(6, 1, 6)", g.scratches(6, 1, 6), 0);
        D.fine(g, "scratches(0, 4, 5)", g.scratches(0, 4, 5), 2);
    }

    private static void scratchesRefused() {
        D.says(29, "NONE: 1; 5.");
        GlassPost g = Due.of(Full.CITY);
        for (int far : FAR) {
            D.refused(g, "scratches of " + far, g.scratches(far, -2, 0), 1);
            D.refused(g, "scratches against " + far, g.scratches(0, far, 0), 1);
            D.refused(g, "scratches for " + far, g.scratches(0, -2, far), 1);
        }
        D.refused(g, "-2 is no word", g.scratches(0, -2, -2), 1);
        D.refused(g, "view 6", g.scratches(0, 6, 0), 1);
        g.breaks(7);
        D.refused(g, "broken", g.scratches(7, -2, 7), 5);
        D.refused(g, "broken, and no word", g.scratches(7, -2, 8), 1);
        D.refused(g, "broken, and no view", g.scratches(7, 6, 7), 1);
    }

    private static void could() {
        D.says(30, "Words that can be READ so by SCRATCHES, as bits.");
        GlassPost g = Due.of(Full.CITY);
        D.fine(g, "nothing yet: all eight", g.could(7, -2), 255);
        D.fine(g, "all strokes: the last alone", g.could(6, -2), 128);
        D.fine(g, "in the dark", g.could(7, 5), 0);
        D.fine(g, "cell 3 is dark", g.could(7, 4), 1 | 2 | 4 | 8 | 32);
        D.fine(g, "pane 3 has a stroke there", g.could(3, -2), 16 | 64 | 128);
        D.fine(g, "not against ve", g.could(3, 4), 1 | 2 | 4 | 8 | 32);
        g.cover(7, 0);
        D.fine(g, "cell 0 is puttied", g.could(7, -2), 2 | 4 | 16 | 64);
        GlassPost bare = Due.of(Due.SMALL);
        D.fine(bare, "no words", bare.could(0, -2), 0);
    }

    private static void couldRefused() {
        D.says(30, "NONE: 1; 5.");
        GlassPost g = Due.of(Full.CITY);
        for (int far : FAR) {
            D.refused(g, "could(" + far + ", -2)", g.could(far, -2), 1);
            D.refused(g, "could(0, " + far + ")", g.could(0, far), 1);
        }
        D.refused(g, "could(0, 6)", g.could(0, 6), 1);
        g.breaks(7);
        D.refused(g, "broken", g.could(7, -2), 5);
        D.refused(g, "broken, and no view", g.could(7, 6), 1);
    }
}
