/** The edges of promises 6 to 14, sentence by sentence, with those of term II that are about panes. */
public final class EdgePaneTest {
    private static final Due D = new Due("EdgePaneTest");
    private static final int ALL = Full.ALL;
    private static final int LAST = 1 << 19;
    private static final int[] FAR = {-1, -3, 8, 9, 31, 32, 33, 64, 1 << 20, Due.LEAST, Due.LEAST + 1, Due.MOST, Due.MOST - 1};

    public static void main(String[] args) {
        cells();
        seenOfThePane();
        puttied();
        firstWord();
        noSuchWord();
        brokenIsNot();
        strokesOfEither();
        paneNow();
        paneRefused();
        words();
        views();
        seen();
        seenRefused();
        read();
        together();
        togetherRefused();
        readTogether();
        viewsFor();
        viewsForRefused();
        pairFor();
        pairForNone();
        D.end();
    }

    private static void cells() {
        D.says("II", "CELLS have numbers, row by row from the left: in bits the lowest one is cell 0.");
        for (int cell = 0; cell < 20; cell++) {
            StringBuilder rows = new StringBuilder("ooooo,ooooo,ooooo,ooooo");
            rows.setCharAt(cell + cell / 5, 'x');
            GlassPost g = Due.of("city wide 5 high 4 hail 0 ice 1;pane p plain " + rows + ";word w " + rows + ";view v " + rows
                    + ";person n;shard n " + rows);
            D.fine(g, "strokes of the pane", g.pane(0, 1), 1 << cell);
            D.fine(g, "strokes of the word", g.word(0), 1 << cell);
            D.fine(g, "dark of the view", g.view(0), 1 << cell);
            D.fine(g, "written by shards", g.written(0), 1 << cell);
            D.fine(g, "seen", g.seen(0, -2), 1 << cell);
            D.fine(g, "seen where it is dark", g.seen(0, 0), 0);
            D.told(g, "there is a stroke", g.scratch(0, cell), false, 5);
            D.told(g, "putty on it", g.cover(0, cell), true, 0);
            D.fine(g, "putty as bits", g.pane(0, 2), 1 << cell);
        }
        GlassPost high = Due.of("city wide 2 high 4 hail 0 ice 1;pane p plain oo,ox,oo,xo");
        D.fine(high, "two a row", high.pane(0, 1), 1 << 3 | 1 << 6);
    }

    private static void seenOfThePane() {
        D.says("II", "SEEN of a pane against a VIEW (or -2, none: nothing is dark): its strokes but where the VIEW is dark");
        GlassPost g = Due.of(Full.LARGE);
        int[] strokes = {0, ALL, LAST, 1};
        int[] dark = {0, ALL, LAST, 31 << 10};
        for (int p = 0; p < 4; p++) {
            D.fine(g, "seen against none", g.seen(p, -2), strokes[p]);
            for (int v = 0; v < 4; v++) {
                D.fine(g, "seen(" + p + ", " + v + ")", g.seen(p, v), strokes[p] & ~dark[v]);
            }
        }
    }

    private static void puttied() {
        D.says("II", ", or where it is PUTTIED.");
        GlassPost g = Due.of(Full.LARGE);
        int putty = 0;
        for (int cell : new int[] {0, 19, 10, 1}) {
            g.cover(1, cell);
            putty |= 1 << cell;
            D.fine(g, "seen against none", g.seen(1, -2), ALL & ~putty);
            D.fine(g, "seen against the end", g.seen(1, 2), ALL & ~putty & ~LAST);
            D.fine(g, "another pane is not puttied", g.seen(3, -2), 1);
        }
        g.cover(0, 5);
        g.scratch(0, 5);
        D.fine(g, "a stroke that comes below putty", g.seen(0, -2), 0);
    }

    private static void firstWord() {
        D.says("II", "READ: the first word that is just these strokes");
        GlassPost g = Due.of(Due.HEAD + ";pane p plain xo,ox;pane q plain oo,oo;pane r ice xx,xx"
                + ";word a xx,ox;word b xo,ox;word c xo,ox;word d oo,oo;word e oo,oo;word f xo,oo;view v oo,ox");
        D.fine(g, "of like words the first", g.read(0, -2), 1);
        D.fine(g, "of like words without strokes the first", g.read(1, -2), 3);
        D.fine(g, "just these: not one more, not one less", g.read(0, 0), 5);
        D.fine(g, "no word of all strokes", g.read(2, -2), -2);
        GlassPost full = Due.of(Full.CITY);
        D.fine(full, "the first word", full.read(0, -2), 0);
        D.fine(full, "the last word", full.read(6, -2), 7);
    }

    private static void noSuchWord() {
        D.says("II", "none, if there is no such.");
        GlassPost none = Due.of(Due.SMALL);
        D.fine(none, "no words at all", none.read(0, -2), -2);
        GlassPost g = Due.of(Due.SMALL + ";word a xo,oo;word b xx,ox;word c oo,oo;view all xx,xx");
        D.fine(g, "one less and one more are no such", g.read(0, -2), -2);
        D.fine(g, "nothing is read as the word of nothing", g.read(0, 0), 2);
    }

    private static void brokenIsNot() {
        D.says("II", "A broken pane isn't SEEN, nor READ.");
        GlassPost g = Due.of(Full.CITY);
        g.breaks(0);
        for (int v = -2; v < 6; v++) {
            if (v != -1) {
                D.refused(g, "seen of a broken one", g.seen(0, v), 5);
                D.refused(g, "read of a broken one", g.read(0, v), 5);
            }
        }
        D.due("it is led no more", g.led(0), 1);
        D.fine(g, "nobody reads it on its way", g.readers(0), 0);
        D.fine(g, "nothing of it is overheard", g.overheard(0), 0);
        g.undo();
        D.fine(g, "whole again", g.read(0, -2), 0);
    }

    private static void strokesOfEither() {
        D.says("II", "LAID TOGETHER: strokes of either, each but where it is PUTTIED.");
        GlassPost g = Due.of(Full.LARGE);
        D.fine(g, "none and none", g.together(0, 2), LAST);
        D.fine(g, "the first and the last cell", g.together(2, 3), 1 | LAST);
        D.fine(g, "all", g.together(1, 3), ALL);
        g.cover(1, 0);
        D.fine(g, "the other one's shows through no putty of its own", g.together(1, 3), ALL);
        g.cover(3, 0);
        D.fine(g, "both are puttied", g.together(1, 3), ALL & ~1);
        D.fine(g, "the one with nothing", g.together(0, 3), 0);
    }

    private static void paneNow() {
        D.says(6, "Of a pane NOW 0 KIND (0 plain, 1 thick, 2 ice), 1 strokes as bits, 2 PUTTIED cells as bits");
        GlassPost g = Due.of(Full.LARGE);
        int[] kinds = {0, 0, 2, 1};
        int[] strokes = {0, ALL, LAST, 1};
        for (int p = 0; p < 4; p++) {
            D.fine(g, "kind", g.pane(p, 0), kinds[p]);
            D.fine(g, "strokes", g.pane(p, 1), strokes[p]);
            D.fine(g, "putty", g.pane(p, 2), 0);
        }
        D.says(6, "3 1 if it is broken, 4 LIGHT.");
        int[] light = {20, 0, 19, 19};
        for (int p = 0; p < 4; p++) {
            D.fine(g, "broken", g.pane(p, 3), 0);
            D.fine(g, "light", g.pane(p, 4), light[p]);
        }
        g.scratch(0, 19);
        g.cover(0, 0);
        g.cover(1, 19);
        D.fine(g, "strokes now", g.pane(0, 1), LAST);
        D.fine(g, "putty now", g.pane(0, 2), 1);
        D.fine(g, "putty of the other one now", g.pane(1, 2), LAST);
        D.fine(g, "light now", g.pane(0, 4), 19);
        D.fine(g, "light of a puttied stroke", g.pane(1, 4), 0);
        g.breaks(0);
        D.fine(g, "broken now", g.pane(0, 3), 1);
        D.fine(g, "kind of a broken one", g.pane(0, 0), 0);
        D.fine(g, "strokes of a broken one", g.pane(0, 1), LAST);
        D.fine(g, "putty of a broken one", g.pane(0, 2), 1);
        D.fine(g, "light of a broken one", g.pane(0, 4), 19);
        D.fine(g, "the next one is whole", g.pane(1, 3), 0);
    }

    private static void paneRefused() {
        D.says(6, "NONE: 1.");
        GlassPost g = Due.of(Full.CITY);
        D.fine(g, "the last of the last", g.pane(7, 4), 4);
        for (int far : FAR) {
            D.refused(g, "pane(" + far + ", 0)", g.pane(far, 0), 1);
            D.refused(g, "pane(" + far + ", 4)", g.pane(far, 4), 1);
            D.refused(g, "pane(0, " + far + ")", g.pane(0, far), 1);
            D.refused(g, "pane(7, " + far + ")", g.pane(7, far), 1);
        }
        for (int what : new int[] {-2, 5, 6, 7}) {
            D.refused(g, "pane(0, " + what + ")", g.pane(0, what), 1);
        }
        GlassPost one = Due.of(Due.SMALL);
        D.fine(one, "the only one", one.pane(0, 0), 0);
        D.refused(one, "no second one", one.pane(1, 0), 1);
    }

    private static void words() {
        D.says(7, "Strokes of a word, as bits. NONE: 1.");
        GlassPost g = Due.of(Full.CITY);
        int[] strokes = {1, 2, 4, 3, 12, 7, 14, 15};
        for (int w = 0; w < 8; w++) {
            D.fine(g, "word(" + w + ")", g.word(w), strokes[w]);
        }
        for (int far : FAR) {
            D.refused(g, "word(" + far + ")", g.word(far), 1);
        }
        D.refused(g, "word(-2)", g.word(-2), 1);
        GlassPost none = Due.of(Due.SMALL);
        D.refused(none, "no word 0", none.word(0), 1);
        GlassPost large = Due.of(Full.LARGE);
        D.fine(large, "no strokes", large.word(0), 0);
        D.fine(large, "all", large.word(1), ALL);
        D.refused(large, "word(3) of three", large.word(3), 1);
    }

    private static void views() {
        D.says(8, "Dark cells of a VIEW, as bits. NONE: 1.");
        GlassPost g = Due.of(Full.CITY);
        int[] dark = {0, 1, 2, 4, 8, 15};
        for (int v = 0; v < 6; v++) {
            D.fine(g, "view(" + v + ")", g.view(v), dark[v]);
        }
        for (int far : FAR) {
            D.refused(g, "view(" + far + ")", g.view(far), 1);
        }
        D.refused(g, "none is no view here", g.view(-2), 1);
        D.refused(g, "view(6)", g.view(6), 1);
        D.refused(g, "view(7)", g.view(7), 1);
        GlassPost none = Due.of(Due.SMALL);
        D.refused(none, "no view 0", none.view(0), 1);
    }

    private static void seen() {
        D.says(9, "SEEN (view -2: none), as bits.");
        GlassPost g = Due.of(Full.CITY);
        D.fine(g, "the first against none", g.seen(0, -2), 1);
        D.fine(g, "the last against none", g.seen(7, -2), 0);
        D.fine(g, "the first against the first", g.seen(0, 0), 1);
        D.fine(g, "the first where it is dark", g.seen(0, 1), 0);
        D.fine(g, "all against the last", g.seen(6, 5), 0);
        D.fine(g, "all against the last but one", g.seen(6, 4), 7);
        D.says(9, "NONE: 1; 5 (broken).");
        for (int far : FAR) {
            D.refused(g, "seen(" + far + ", -2)", g.seen(far, -2), 1);
            D.refused(g, "seen(0, " + far + ")", g.seen(0, far), 1);
        }
        D.refused(g, "seen(0, 6)", g.seen(0, 6), 1);
        D.refused(g, "seen(-2, -2)", g.seen(-2, -2), 1);
    }

    private static void seenRefused() {
        D.says(9, "NONE: 1; 5 (broken).");
        GlassPost g = Due.of(Full.CITY);
        g.breaks(7);
        g.breaks(0);
        D.refused(g, "the first is broken", g.seen(0, -2), 5);
        D.refused(g, "the last is broken", g.seen(7, 5), 5);
        D.fine(g, "the one between isn't", g.seen(3, -2), 8);
        D.refused(g, "no view and broken", g.seen(0, 6), 1);
        D.refused(g, "no view -1 and broken", g.seen(7, -1), 1);
        D.told(g, "undone", g.undo(), true, 0);
        D.fine(g, "it is whole again", g.seen(0, -2), 1);
        GlassPost bare = Due.of(Due.SMALL);
        D.fine(bare, "no views, but none", bare.seen(0, -2), 9);
        D.refused(bare, "no view 0", bare.seen(0, 0), 1);
    }

    private static void read() {
        D.says(10, "READ; -2.");
        GlassPost g = Due.of(Full.CITY);
        int[] words = {0, 1, 2, -2, 3, 4, 7, -2};
        for (int p = 0; p < 8; p++) {
            D.fine(g, "read(" + p + ", -2)", g.read(p, -2), words[p]);
            D.fine(g, "read(" + p + ", 5) in the dark", g.read(p, 5), -2);
        }
        D.fine(g, "read(6, 1)", g.read(6, 1), 6);
        D.fine(g, "read(6, 4)", g.read(6, 4), 5);
        D.says(10, "NONE: likewise.");
        for (int far : FAR) {
            D.refused(g, "read(" + far + ", -2)", g.read(far, -2), 1);
            D.refused(g, "read(0, " + far + ")", g.read(0, far), 1);
        }
        D.refused(g, "read(0, 6)", g.read(0, 6), 1);
        g.breaks(7);
        D.refused(g, "broken", g.read(7, -2), 5);
        D.refused(g, "broken, and no view", g.read(7, 6), 1);
    }

    private static void together() {
        D.says(11, "LAID TOGETHER, as bits.");
        GlassPost g = Due.of(Full.CITY);
        int[] strokes = {1, 2, 4, 8, 3, 12, 15, 0};
        for (int p = 0; p < 8; p++) {
            for (int q = 0; q < 8; q++) {
                if (p == q) {
                    D.refused(g, "together(" + p + ", " + q + ")", g.together(p, q), 1);
                } else {
                    D.fine(g, "together(" + p + ", " + q + ")", g.together(p, q), strokes[p] | strokes[q]);
                }
            }
        }
    }

    private static void togetherRefused() {
        D.says(11, "NONE: 1 (unlike); 5 (one is broken).");
        GlassPost g = Due.of(Full.CITY);
        for (int far : FAR) {
            D.refused(g, "together(0, " + far + ")", g.together(0, far), 1);
            D.refused(g, "together(" + far + ", 0)", g.together(far, 0), 1);
            D.refused(g, "together of two " + far, g.together(far, far), 1);
        }
        D.refused(g, "together(-2, 0)", g.together(-2, 0), 1);
        D.refused(g, "like ones", g.together(7, 7), 1);
        g.breaks(7);
        for (int p = 0; p < 7; p++) {
            D.refused(g, "the one is broken", g.together(7, p), 5);
            D.refused(g, "the other one is", g.together(p, 7), 5);
            D.refused(g, "the one is broken, read", g.readTogether(7, p), 5);
            D.refused(g, "the other one is, read", g.readTogether(p, 7), 5);
        }
        D.refused(g, "a broken one with itself", g.together(7, 7), 1);
        D.refused(g, "a broken one with none", g.together(7, 8), 1);
        D.refused(g, "none with a broken one", g.together(-1, 7), 1);
        g.breaks(0);
        D.refused(g, "both are broken", g.together(0, 7), 5);
        D.fine(g, "two others", g.together(4, 5), 15);
    }

    private static void readTogether() {
        D.says(12, "The word that is just these; -2.");
        GlassPost g = Due.of(Full.CITY);
        D.fine(g, "1 and 2", g.readTogether(0, 1), 3);
        D.fine(g, "2 and 1", g.readTogether(1, 0), 3);
        D.fine(g, "12 and 3, the last word", g.readTogether(5, 4), 7);
        D.fine(g, "1 and nothing, the first word", g.readTogether(0, 7), 0);
        D.fine(g, "1 and 4", g.readTogether(0, 2), -2);
        D.fine(g, "8 and nothing", g.readTogether(3, 7), -2);
        GlassPost like = Due.of(Due.SMALL + ";pane q ice ox,xo;word a xo,oo;word b xx,xx;word c xx,xx");
        D.fine(like, "of like words the first", like.readTogether(0, 1), 1);
        GlassPost bare = Due.of(Due.SMALL + ";pane q ice ox,xo");
        D.fine(bare, "no words", bare.readTogether(0, 1), -2);
        D.says(12, "NONE: likewise.");
        for (int far : FAR) {
            D.refused(g, "readTogether(0, " + far + ")", g.readTogether(0, far), 1);
            D.refused(g, "readTogether(" + far + ", 0)", g.readTogether(far, 0), 1);
        }
        D.refused(g, "like ones", g.readTogether(0, 0), 1);
        g.breaks(0);
        D.refused(g, "like ones, and broken", g.readTogether(0, 0), 1);
        D.refused(g, "broken", g.readTogether(0, 7), 5);
    }

    private static void viewsFor() {
        D.says(13, "VIEWS against which it is READ as a word, as bits.");
        GlassPost g = Due.of(Full.CITY);
        D.fine(g, "pane 0 as word 0", g.viewsFor(0, 0), 1 | 4 | 8 | 16);
        D.fine(g, "pane 6 as the last word", g.viewsFor(6, 7), 1);
        D.fine(g, "pane 6 as word 5: the last cell is dark", g.viewsFor(6, 5), 16);
        D.fine(g, "pane 6 as word 6: the first cell is dark", g.viewsFor(6, 6), 2);
        D.fine(g, "pane 4 as word 0", g.viewsFor(4, 0), 4);
        D.fine(g, "never", g.viewsFor(7, 7), 0);
        GlassPost six = Due.of(Due.HEAD + ";pane p plain oo,oo;word a oo,oo;word b oo,oo" + Full.VIEWS);
        D.fine(six, "all six", six.viewsFor(0, 0), 63);
        D.fine(six, "a later like word is not the one that is read", six.viewsFor(0, 1), 0);
        GlassPost bare = Due.of(Due.SMALL + ";word a xo,ox");
        D.fine(bare, "no views: none counts not", bare.viewsFor(0, 0), 0);
    }

    private static void viewsForRefused() {
        D.says(13, "NONE: 1; 5.");
        GlassPost g = Due.of(Full.CITY);
        for (int far : FAR) {
            D.refused(g, "viewsFor(0, " + far + ")", g.viewsFor(0, far), 1);
            D.refused(g, "viewsFor(" + far + ", 0)", g.viewsFor(far, 0), 1);
        }
        D.refused(g, "viewsFor(0, -2)", g.viewsFor(0, -2), 1);
        g.breaks(7);
        D.refused(g, "broken", g.viewsFor(7, 0), 5);
        D.refused(g, "broken, the last word", g.viewsFor(7, 7), 5);
        D.refused(g, "broken, and no word", g.viewsFor(7, 8), 1);
        GlassPost bare = Due.of(Due.SMALL);
        D.refused(bare, "no word 0", bare.viewsFor(0, 0), 1);
    }

    private static void pairFor() {
        D.says(14, "Two panes whose strokes LAID TOGETHER are just a word's, 10 times the lesser number and the greater, the first such");
        GlassPost g = Due.of(Full.CITY);
        D.fine(g, "3: 0 and 1 ahead of 0 and 4", g.pairFor(3), 1);
        D.fine(g, "12: 2 and 3", g.pairFor(4), 23);
        D.fine(g, "7: 2 and 4", g.pairFor(5), 24);
        D.fine(g, "14: 1 and 5", g.pairFor(6), 15);
        D.fine(g, "15: 0 and 6", g.pairFor(7), 6);
        D.fine(g, "1: the first and the last", g.pairFor(0), 7);
        g.breaks(0);
        D.fine(g, "15 without pane 0", g.pairFor(7), 16);
        D.fine(g, "3 without pane 0", g.pairFor(3), 14);
        g.undo();
        g.breaks(4);
        g.breaks(5);
        D.fine(g, "14 without panes 4, 5", g.pairFor(6), -2);
        GlassPost last = Due.of(Due.HEAD + ";pane a ice xx,xx;pane b ice xx,xx;pane c ice xx,xx;pane d ice xx,xx"
                + ";pane e ice xx,xx;pane f ice xx,xx;pane h ice xo,oo;pane i ice oo,ox;word w xo,ox");
        D.fine(last, "the last two", last.pairFor(0), 67);
    }

    private static void pairForNone() {
        D.says(14, "; -2. NONE: 1.");
        GlassPost g = Due.of(Due.SMALL + ";word w xo,ox");
        D.fine(g, "one pane is no pair", g.pairFor(0), -2);
        GlassPost two = Due.of(Due.SMALL + ";pane q ice xo,ox;word w xo,ox;word u xx,xx;word n oo,oo");
        D.fine(two, "two like panes are a pair", two.pairFor(0), 1);
        D.fine(two, "no pair", two.pairFor(1), -2);
        two.breaks(1);
        D.fine(two, "a broken one is in no pair", two.pairFor(0), -2);
        GlassPost full = Due.of(Full.CITY);
        for (int far : FAR) {
            D.refused(full, "pairFor(" + far + ")", full.pairFor(far), 1);
        }
        D.refused(full, "pairFor(-2)", full.pairFor(-2), 1);
        GlassPost bare = Due.of(Due.SMALL);
        D.refused(bare, "no word 0", bare.pairFor(0), 1);
    }
}
