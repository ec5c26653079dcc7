/** The edges of promises 43 to 51, sentence by sentence, with those of term III about acts, of term IV and the constants. */
public final class EdgeActTest {
    private static final Due D = new Due("EdgeActTest");
    private static final int ALL = Full.ALL;
    private static final int LAST = 1 << 19;
    private static final int[] FAR = {-1, -2, -3, 20, 21, 31, 32, 33, 64, 1 << 20, Due.LEAST, Due.LEAST + 1, Due.MOST, Due.MOST - 1};

    public static void main(String[] args) {
        acts();
        sixteenAreKept();
        sixteenOfEachSort();
        threeMarks();
        goneBack();
        scratch();
        scratchRefused();
        cover();
        coverRefused();
        breaks();
        breaksRefused();
        undo();
        undoRefused();
        mark();
        markRefused();
        back();
        backRefused();
        led();
        noneSuchLed();
        size();
        sizeOfOthers();
        D.end();
    }

    private static void state(GlassPost g, String when, int p, int strokes, int putty, int broken) {
        D.fine(g, "strokes of " + p + " " + when, g.pane(p, 1), strokes);
        D.fine(g, "putty of " + p + " " + when, g.pane(p, 2), putty);
        D.fine(g, "broken is " + p + " " + when, g.pane(p, 3), broken);
    }

    private static void acts() {
        D.says("III", "ACTS: SCRATCH (a stroke more), PUTTY (a cell), BREAK.");
        GlassPost g = Due.of(Full.LARGE);
        for (int cell = 0; cell < 20; cell++) {
            D.told(g, "scratch(0, " + cell + ")", g.scratch(0, cell), true, 0);
            D.told(g, "cover(1, " + cell + ")", g.cover(1, cell), true, 0);
            D.fine(g, "a stroke more", g.pane(0, 1), (2 << cell) - 1);
            D.fine(g, "a puttied cell more", g.pane(1, 2), (2 << cell) - 1);
        }
        D.told(g, "breaks(2)", g.breaks(2), true, 0);
        state(g, "at the end", 0, ALL, 0, 0);
        state(g, "at the end", 1, ALL, ALL, 0);
        state(g, "at the end", 2, LAST, 0, 1);
        state(g, "at the end", 3, 1, 0, 0);
    }

    private static void sixteenAreKept() {
        D.says("III", "UNDO: the latest (16 are kept).");
        for (int done : new int[] {1, 15, 16, 17, 18, 20}) {
            GlassPost g = Due.of(Full.LARGE);
            for (int cell = 0; cell < done; cell++) {
                g.scratch(0, cell);
                D.due("acts behind " + (cell + 1), g.size(13), Math.min(cell + 1, 16));
            }
            int kept = Math.min(done, 16);
            for (int i = 1; i <= kept; i++) {
                D.told(g, "undo " + i + " of " + done, g.undo(), true, 0);
                D.due("acts behind undo " + i, g.size(13), kept - i);
                D.fine(g, "strokes behind undo " + i, g.pane(0, 1), (1 << (done - i)) - 1);
            }
            D.told(g, "one more of " + done, g.undo(), false, 6);
            D.fine(g, "what was done ahead of them stays", g.pane(0, 1), (1 << (done - kept)) - 1);
            D.told(g, "a new act", g.scratch(0, 19), true, 0);
            D.told(g, "is the latest", g.undo(), true, 0);
            D.told(g, "and the only one", g.undo(), false, 6);
        }
    }

    /** Forty acts of all sorts on all panes: the last sixteen are undone, each as it was done. */
    private static void sixteenOfEachSort() {
        D.says("III", "UNDO: the latest (16 are kept).");
        GlassPost g = Due.of(Full.LARGE);
        for (int cell = 0; cell < 12; cell++) {
            g.scratch(0, cell);
            g.cover(1, cell);
        }
        g.cover(0, 3);
        g.breaks(0);
        g.breaks(1);
        g.breaks(2);
        D.due("acts", g.size(13), 16);
        for (int p = 2; p >= 0; p--) {
            D.told(g, "undo the break of " + p, g.undo(), true, 0);
            D.fine(g, "whole again is " + p, g.pane(p, 3), 0);
        }
        D.told(g, "undo the putty", g.undo(), true, 0);
        D.fine(g, "no putty on 0", g.pane(0, 2), 0);
        for (int cell = 11; cell > 5; cell--) {
            g.undo();
            D.fine(g, "putty of 1", g.pane(1, 2), (1 << cell) - 1);
            g.undo();
            D.fine(g, "strokes of 0", g.pane(0, 1), (1 << cell) - 1);
        }
        D.told(g, "no more", g.undo(), false, 6);
        state(g, "at the end", 0, 63, 0, 0);
        state(g, "at the end", 1, ALL, 63, 0);
    }

    private static void threeMarks() {
        D.says("III", "MARKS: up to 3;");
        GlassPost g = Due.of(Full.LARGE);
        for (int i = 0; i < 3; i++) {
            D.due("marks", g.size(14), i);
            D.fine(g, "mark " + i, g.mark(), i);
            g.scratch(0, i);
        }
        D.due("marks", g.size(14), 3);
        for (int i = 0; i < 2; i++) {
            D.refused(g, "a fourth", g.mark(), 3);
            D.due("marks", g.size(14), 3);
        }
        for (int i = 2; i >= 0; i--) {
            D.told(g, "back(" + i + ")", g.back(i), true, 0);
            D.fine(g, "strokes by mark " + i, g.pane(0, 1), (1 << i) - 1);
        }
        D.refused(g, "gone back, there is no more room", g.mark(), 3);
    }

    private static void goneBack() {
        D.says("III", "gone back to one, nothing can be undone.");
        GlassPost g = Due.of(Full.LARGE);
        g.scratch(0, 0);
        D.fine(g, "a mark", g.mark(), 0);
        D.due("a mark leaves what can be undone", g.size(13), 1);
        D.told(g, "back at once", g.back(0), true, 0);
        D.due("nothing can be undone", g.size(13), 0);
        D.told(g, "undo()", g.undo(), false, 6);
        D.fine(g, "the stroke stays", g.pane(0, 1), 1);
        for (int cell = 1; cell < 18; cell++) {
            g.scratch(0, cell);
        }
        D.due("sixteen again", g.size(13), 16);
        D.told(g, "back", g.back(0), true, 0);
        D.due("nothing can be undone", g.size(13), 0);
        D.told(g, "undo()", g.undo(), false, 6);
        g.cover(0, 5);
        D.told(g, "what comes later can", g.undo(), true, 0);
        state(g, "by the mark", 0, 1, 0, 0);
    }

    private static void scratch() {
        D.says(43, "SCRATCH: true;");
        GlassPost g = Due.of(Full.LARGE);
        D.told(g, "the first cell", g.scratch(0, 0), true, 0);
        D.told(g, "the last cell", g.scratch(0, 19), true, 0);
        D.told(g, "a thick one", g.scratch(3, 19), true, 0);
        D.told(g, "one of ice", g.scratch(2, 0), true, 0);
        D.told(g, "putty", g.cover(0, 7), true, 0);
        D.told(g, "below putty", g.scratch(0, 7), true, 0);
        state(g, "scratched", 0, 1 | 1 << 7 | LAST, 1 << 7, 0);
        D.due("acts", g.size(13), 6);
        GlassPost full = Due.of(Full.CITY);
        D.told(full, "the last pane", full.scratch(7, 3), true, 0);
        D.fine(full, "its strokes", full.pane(7, 1), 8);
    }

    private static void scratchRefused() {
        D.says(43, "false: 1; 5 (it is broken, there is a stroke).");
        GlassPost g = Due.of(Full.LARGE);
        for (int far : FAR) {
            D.told(g, "scratch(0, " + far + ")", g.scratch(0, far), false, 1);
            D.told(g, "scratch(" + far + ", 0)", g.scratch(far, 0), false, 1);
            D.told(g, "scratch of two " + far, g.scratch(far, far), false, 1);
        }
        D.told(g, "scratch(4, 0) of four", g.scratch(4, 0), false, 1);
        D.told(g, "a stroke as told", g.scratch(3, 0), false, 5);
        D.told(g, "the last, too", g.scratch(2, 19), false, 5);
        g.scratch(0, 5);
        D.told(g, "a stroke that came", g.scratch(0, 5), false, 5);
        g.breaks(0);
        D.told(g, "it is broken", g.scratch(0, 6), false, 5);
        D.told(g, "it is broken, and there is a stroke", g.scratch(0, 5), false, 5);
        D.told(g, "it is broken, and there is no cell", g.scratch(0, 20), false, 1);
        D.due("acts", g.size(13), 2);
        state(g, "at the end", 0, 32, 0, 1);
        GlassPost small = Due.of(Due.SMALL);
        D.told(small, "the fourth cell has a stroke", small.scratch(0, 3), false, 5);
        D.told(small, "there is no fifth", small.scratch(0, 4), false, 1);
        GlassPost flat = Due.of("city wide 5 high 2 hail 0 ice 1;pane p ice ooooo,ooooo");
        D.told(flat, "the tenth", flat.scratch(0, 9), true, 0);
        D.told(flat, "no eleventh", flat.scratch(0, 10), false, 1);
    }

    private static void cover() {
        D.says(44, "PUTTY on a cell: true;");
        GlassPost g = Due.of(Full.LARGE);
        D.told(g, "the first cell", g.cover(0, 0), true, 0);
        D.told(g, "the last cell", g.cover(0, 19), true, 0);
        D.told(g, "where a stroke is", g.cover(1, 19), true, 0);
        D.told(g, "a thick one", g.cover(3, 0), true, 0);
        D.told(g, "one of ice", g.cover(2, 0), true, 0);
        state(g, "puttied", 0, 0, 1 | LAST, 0);
        state(g, "puttied", 1, ALL, LAST, 0);
        D.due("acts", g.size(13), 5);
        GlassPost full = Due.of(Full.CITY);
        D.told(full, "the last pane", full.cover(7, 3), true, 0);
        D.fine(full, "its putty", full.pane(7, 2), 8);
    }

    private static void coverRefused() {
        D.says(44, "false: 1; 5 (it is broken, PUTTIED there).");
        GlassPost g = Due.of(Full.LARGE);
        for (int far : FAR) {
            D.told(g, "cover(0, " + far + ")", g.cover(0, far), false, 1);
            D.told(g, "cover(" + far + ", 0)", g.cover(far, 0), false, 1);
        }
        D.told(g, "cover(4, 0) of four", g.cover(4, 0), false, 1);
        g.cover(0, 5);
        D.told(g, "puttied there", g.cover(0, 5), false, 5);
        D.told(g, "another cell", g.cover(0, 6), true, 0);
        D.told(g, "another pane", g.cover(1, 5), true, 0);
        g.breaks(0);
        D.told(g, "it is broken", g.cover(0, 7), false, 5);
        D.told(g, "it is broken, and puttied there", g.cover(0, 5), false, 5);
        D.told(g, "it is broken, and there is no cell", g.cover(0, -1), false, 1);
        D.due("acts", g.size(13), 4);
        state(g, "at the end", 0, 0, 32 | 64, 1);
        GlassPost small = Due.of(Due.SMALL);
        D.told(small, "the fourth cell", small.cover(0, 3), true, 0);
        D.told(small, "there is no fifth", small.cover(0, 4), false, 1);
    }

    private static void breaks() {
        D.says(45, "BREAK: true;");
        GlassPost g = Due.of(Full.CITY);
        D.told(g, "the first", g.breaks(0), true, 0);
        D.told(g, "the last, of ice", g.breaks(7), true, 0);
        state(g, "broken", 0, 1, 0, 1);
        state(g, "broken", 7, 0, 0, 1);
        state(g, "whole", 3, 8, 0, 0);
        D.due("acts", g.size(13), 2);
        D.due("they are panes still", g.size(4), 8);
    }

    private static void breaksRefused() {
        D.says(45, "false: 1; 5 (it is broken, thick).");
        GlassPost g = Due.of(Full.CITY);
        for (int far : FAR) {
            D.told(g, "breaks(" + far + ")", g.breaks(far), false, 1);
        }
        D.told(g, "breaks(8) of eight", g.breaks(8), false, 1);
        D.told(g, "thick", g.breaks(1), false, 5);
        D.told(g, "thick", g.breaks(6), false, 5);
        state(g, "whole", 6, 15, 0, 0);
        g.breaks(0);
        D.told(g, "it is broken", g.breaks(0), false, 5);
        D.due("acts", g.size(13), 1);
        D.told(g, "undone", g.undo(), true, 0);
        D.told(g, "it can break again", g.breaks(0), true, 0);
    }

    private static void undo() {
        D.says(46, "UNDO: true;");
        GlassPost g = Due.of(Full.CITY);
        g.scratch(7, 0);
        g.cover(7, 0);
        g.breaks(7);
        D.told(g, "the break", g.undo(), true, 0);
        state(g, "then", 7, 1, 1, 0);
        D.told(g, "the putty", g.undo(), true, 0);
        state(g, "then", 7, 1, 0, 0);
        D.told(g, "the stroke", g.undo(), true, 0);
        state(g, "then", 7, 0, 0, 0);
        D.told(g, "it can come again", g.scratch(7, 0), true, 0);
    }

    private static void undoRefused() {
        D.says(46, "false: 6.");
        GlassPost none = new GlassPost();
        D.told(none, "no city", none.undo(), false, 6);
        GlassPost g = Due.of(Full.CITY);
        D.told(g, "nothing was done", g.undo(), false, 6);
        g.scratch(0, 0);
        g.breaks(1);
        g.cover(0, 4);
        D.told(g, "refused ones are no acts", g.undo(), false, 6);
        g.scratch(7, 1);
        D.told(g, "one act", g.undo(), true, 0);
        D.told(g, "no second one", g.undo(), false, 6);
        D.told(g, "still none", g.undo(), false, 6);
        D.due("acts", g.size(13), 0);
        state(g, "as told", 7, 0, 0, 0);
    }

    private static void mark() {
        D.says(47, "A MARK: its number.");
        GlassPost g = Due.of(Full.CITY);
        D.fine(g, "the first", g.mark(), 0);
        D.fine(g, "the second", g.mark(), 1);
        D.fine(g, "the third", g.mark(), 2);
        D.due("marks", g.size(14), 3);
        D.fine(g, "a new city", Due.city(g, Full.CITY), 8);
        D.fine(g, "the first again", g.mark(), 0);
    }

    private static void markRefused() {
        D.says(47, "NONE: 1 (no CITY); 3.");
        GlassPost none = new GlassPost();
        D.refused(none, "no city", none.mark(), 1);
        D.due("no mark", none.size(14), 0);
        Due.city(none, Due.SMALL + ";");
        D.refused(none, "a text with a fault is none", none.mark(), 1);
        GlassPost g = Due.of(Full.CITY);
        g.mark();
        g.scratch(7, 0);
        g.mark();
        g.scratch(7, 1);
        g.mark();
        g.scratch(7, 2);
        D.refused(g, "no room", g.mark(), 3);
        D.due("marks", g.size(14), 3);
        D.due("acts", g.size(13), 3);
        g.back(2);
        state(g, "by the third mark, not by the fourth", 7, 3, 0, 0);
    }

    private static void back() {
        D.says(48, "All is as by a MARK (all MARKS stay): true;");
        GlassPost g = Due.of(Full.CITY);
        g.mark();
        g.scratch(7, 0);
        g.cover(6, 3);
        g.breaks(0);
        g.mark();
        g.scratch(7, 3);
        g.cover(6, 0);
        g.breaks(7);
        g.mark();
        int[][] seven = {{0, 0, 0}, {1, 0, 0}, {9, 0, 1}};
        int[] six = {0, 8, 9};
        for (int mark : new int[] {2, 0, 1, 1, 0, 2}) {
            D.told(g, "back(" + mark + ")", g.back(mark), true, 0);
            state(g, "by mark " + mark, 7, seven[mark][0], seven[mark][1], seven[mark][2]);
            state(g, "by mark " + mark, 6, 15, six[mark], 0);
            state(g, "by mark " + mark, 0, 1, 0, mark == 0 ? 0 : 1);
            D.due("all marks stay", g.size(14), 3);
            g.scratch(5, 0);
        }
        D.told(g, "back(0)", g.back(0), true, 0);
        state(g, "what came behind it is gone", 5, 12, 0, 0);
    }

    private static void backRefused() {
        D.says(48, "false: 1.");
        GlassPost none = new GlassPost();
        D.told(none, "no city", none.back(0), false, 1);
        GlassPost g = Due.of(Full.CITY);
        for (int there = 0; there <= 3; there++) {
            for (int mark : new int[] {-1, -2, there, there + 1, 31, 32, 33, Due.LEAST, Due.MOST}) {
                g.scratch(7, 0);
                D.told(g, "back(" + mark + ") of " + there, g.back(mark), false, 1);
                D.due("acts stay", g.size(13), 1);
                D.due("marks stay", g.size(14), there);
            }
            D.fine(g, "strokes stay", g.pane(7, 1), 1);
            D.told(g, "undo", g.undo(), true, 0);
            g.mark();
        }
    }

    private static void led() {
        D.says(49, "The i-th pane, by numbers, that is READ against no VIEW (-2) as some word.");
        GlassPost g = Due.of(Full.CITY);
        int[] due = {0, 1, 2, 4, 5, 6};
        for (int i = 0; i < due.length; i++) {
            D.due("led(" + i + ")", g.led(i), due[i]);
        }
        g.scratch(7, 3);
        g.scratch(7, 2);
        D.due("the last one, now", g.led(6), 7);
        g.breaks(0);
        D.due("the first is broken", g.led(0), 1);
        D.due("the last", g.led(5), 7);
        g.undo();
        D.due("whole again", g.led(0), 0);
        GlassPost eight = Due.of(Due.HEAD + Full.PANES + Full.WORDS.replace("word wf xx,xo", "word wf oo,ox").replace("word wg ox,xx", "word wg oo,oo"));
        for (int i = 0; i < 8; i++) {
            D.due("all eight: led(" + i + ")", eight.led(i), i);
        }
        D.noSuchLed(eight, 8);
    }

    private static void noneSuchLed() {
        D.says(49, "NoSuchElementException if there is none such.");
        GlassPost g = Due.of(Full.CITY);
        g.word(99);
        for (int far : new int[] {-1, -2, 6, 7, 8, 31, 32, Due.LEAST, Due.LEAST + 1, Due.MOST, Due.MOST - 1}) {
            D.noSuchLed(g, far);
            D.due("trouble() is as it was", g.trouble(), 1);
        }
        GlassPost none = new GlassPost();
        D.noSuchLed(none, 0);
        GlassPost bare = Due.of(Due.SMALL);
        D.noSuchLed(bare, 0);
        GlassPost one = Due.of(Due.SMALL + ";word w xo,ox");
        D.due("one", one.led(0), 0);
        D.noSuchLed(one, 1);
        one.breaks(0);
        D.noSuchLed(one, 0);
    }

    private static void size() {
        D.says(50, "0 wide, 1 high, 2 hail, 3 ice, 4 panes, 5 words, 6 VIEWS, 7 corners, 8 streets, 9 thieves, 10 letters sent, 11 people, 12 shards");
        String text = "city wide 5 high 3 hail 42 ice 17;pane a plain ooooo,ooooo,ooooo;pane b ice ooooo,ooooo,ooooo"
                + ";word c ooooo,ooooo,ooooo;view d ooooo,ooooo,ooooo;view e ooooo,ooooo,ooooo;view f ooooo,ooooo,ooooo"
                + ";corner h d;corner i d;corner j d;corner k d;street h i 1 breaks 0;street h j 1 breaks 0;street h k 1 breaks 0"
                + ";street i j 1 breaks 0;street i k 1 breaks 0;thief h;thief j;sent a h h;sent a h i;sent a h j;sent a h k;sent b h h"
                + ";person l;person m;person n;shard l ooooo,ooooo,ooooo";
        GlassPost g = Due.of(text);
        int[] sizes = {5, 3, 42, 17, 2, 1, 3, 4, 5, 2, 5, 3, 1, 0, 0, 0};
        for (int what = 0; what < 16; what++) {
            D.due("size(" + what + ")", g.size(what), sizes[what]);
        }
        D.says(50, "13 ACTS that can be undone, 14 MARKS, 15 bytes of THE TAPE.");
        for (int i = 1; i <= 17; i++) {
            D.due("an act", i <= 15 ? g.scratch(0, i - 1) : g.cover(0, i - 16), true);
            D.due("size(13)", g.size(13), Math.min(i, 16));
        }
        for (int i = 1; i <= 4; i++) {
            g.mark();
            D.due("size(14)", g.size(14), Math.min(i, 3));
        }
        for (int i = 1; i <= 56; i++) {
            g.feed(0, 0, 0, 0, 0);
            D.due("size(15)", g.size(15), 20 * Math.min(i, 55));
        }
    }

    private static void sizeOfOthers() {
        D.says(50, "NONE for others; 0 for what there isn't.");
        GlassPost none = new GlassPost();
        GlassPost g = Due.of(Due.SMALL);
        for (int what : new int[] {-1, -2, 16, 17, 31, 32, 100, Due.LEAST, Due.LEAST + 1, Due.MOST, Due.MOST - 1}) {
            D.due("size(" + what + ") without a city", none.size(what), -1);
            D.due("size(" + what + ")", g.size(what), -1);
        }
        for (int what = 0; what < 16; what++) {
            D.due("size(" + what + ") without a city", none.size(what), 0);
            D.due("size(" + what + ") of what there isn't", what < 5 || g.size(what) == 0, true);
        }
        g.word(0);
        g.size(99);
        D.due("size leaves trouble()", g.trouble(), 1);
    }
}
