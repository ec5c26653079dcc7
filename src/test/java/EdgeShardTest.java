/** The edges of promises 31 to 36, sentence by sentence, with those of term III that are about shards. */
public final class EdgeShardTest {
    private static final Due D = new Due("EdgeShardTest");
    private static final int ALL = Full.ALL;
    private static final int[] FAR = {-1, -2, -3, 31, 32, 33, 255, 256, 1 << 20, Due.LEAST, Due.LEAST + 1, Due.MOST, Due.MOST - 1};
    private static final String ONE = Due.SMALL + ";person a;";
    private static final String TWENTY = "city wide 5 high 4 hail 0 ice 1;pane p plain ooooo,ooooo,ooooo,ooooo;person a;";

    public static void main(String[] args) {
        justOnce();
        eightShards();
        mostCells();
        itsStrokes();
        wordOfThese();
        wholes();
        wholeByBits();
        wholeRefused();
        written();
        wordOf();
        owner();
        missing();
        noCity();
        actsDoNotMatter();
        D.end();
    }

    private static void justOnce() {
        D.says("III", "WHOLES: sets of shards that have each cell just once.");
        GlassPost one = Due.of(ONE + "shard a xo,ox");
        D.fine(one, "one shard with all cells", one.wholes(), 1);
        GlassPost lacks = Due.of(ONE + "shard a xo,om");
        D.fine(lacks, "one cell lacks", lacks.wholes(), 0);
        GlassPost twice = Due.of(ONE + "shard a xo,om;shard a mm,oo");
        D.fine(twice, "one cell twice", twice.wholes(), 0);
        GlassPost both = Due.of(ONE + "shard a xo,om;shard a mm,mo");
        D.fine(both, "each just once", both.wholes(), 1);
        D.fine(both, "both shards", both.whole(0), 3);
        GlassPost more = Due.of(ONE + "shard a oo,oo;shard a mm,mo");
        D.fine(more, "a whole with one more is none", more.wholes(), 1);
        D.fine(more, "it is the first alone", more.whole(0), 1);
        GlassPost none = Due.of(Due.SMALL);
        D.fine(none, "no shards: no set has each cell", none.wholes(), 0);
        GlassPost large = Due.of(TWENTY + "shard a xxxxx,xxxxx,xxxxx,xxxxm;shard a mmmmm,mmmmm,mmmmm,mmmmo");
        D.fine(large, "twenty cells", large.whole(0), 3);
    }

    private static void eightShards() {
        D.says("III", "WHOLES: sets of shards that have each cell just once.");
        GlassPost same = Due.of(ONE + "shard a xo,ox" + ";shard a xo,ox".repeat(7));
        D.fine(same, "eight like ones", same.wholes(), 8);
        for (int i = 0; i < 8; i++) {
            D.fine(same, "whole(" + i + ")", same.whole(i), 1 << i);
        }
        D.refused(same, "no ninth", same.whole(8), 1);
        GlassPost parts = Due.of("city wide 4 high 2 hail 0 ice 1;pane p ice oooo,oooo;person a;shard a xmmm,mmmm;shard a mxmm,mmmm"
                + ";shard a mmxm,mmmm;shard a mmmx,mmmm;shard a mmmm,xmmm;shard a mmmm,mxmm;shard a mmmm,mmxm;shard a mmmm,mmmx");
        D.fine(parts, "all eight make one", parts.wholes(), 1);
        D.fine(parts, "all bits", parts.whole(0), 255);
        GlassPost halves = Due.of(ONE + "shard a xx,mm;shard a xx,mm;shard a xx,mm;shard a xx,mm;shard a mm,oo;shard a mm,oo"
                + ";shard a mm,oo;shard a mm,oo");
        D.fine(halves, "four times four", halves.wholes(), 16);
        D.fine(halves, "the first", halves.whole(0), 1 | 16);
        D.fine(halves, "the last", halves.whole(15), 8 | 128);
        D.refused(halves, "none behind it", halves.whole(16), 1);
    }

    private static void mostCells() {
        D.says("III", "OWNER of one: who has most cells of it, the first such.");
        String people = Due.SMALL + ";person a;person b;person c;person d;";
        GlassPost like = Due.of(people + "shard d xm,mm;shard c mx,mm;shard b mm,xm;shard a mm,mx");
        D.fine(like, "all have one", like.owner(0), 0);
        GlassPost last = Due.of(people + "shard d xx,mm;shard c mm,xm;shard b mm,mx");
        D.fine(last, "the last has two", last.owner(0), 3);
        GlassPost two = Due.of(people + "shard d xx,mm;shard c mm,xx");
        D.fine(two, "two of two each", two.owner(0), 2);
        GlassPost many = Due.of(people + "shard d xm,mm;shard b mx,mm;shard d mm,xm;shard b mm,mo");
        D.fine(many, "cells of all shards of one", many.owner(0), 1);
        GlassPost strokes = Due.of(people + "shard a mx,mm;shard b om,oo");
        D.fine(strokes, "cells count, not strokes", strokes.owner(0), 1);
        GlassPost outside = Due.of(people + "shard b xx,xx;shard a xx,om;shard a mm,om");
        D.fine(outside, "only cells of it", outside.owner(0), 1);
        D.refused(outside, "there is but one", outside.owner(1), 1);
    }

    private static void itsStrokes() {
        D.says("III", "WRITTEN: its strokes;");
        GlassPost g = Due.of(ONE + "shard a xm,mm;shard a mo,mm;shard a mm,ox;shard a mm,xo");
        D.fine(g, "the first", g.written(0), 1 | 8);
        D.fine(g, "the second", g.written(1), 1 | 4);
        D.says("III", "the word that is just these.");
        GlassPost h = Due.of(ONE + "shard a xm,mm;shard a mo,mm;shard a mm,ox;shard a mm,xo;word b xx,xo;word c xo,xo;word d xo,xo");
        D.fine(h, "no word", h.wordOf(0), -2);
        D.fine(h, "the first of like words", h.wordOf(1), 1);
    }

    private static void wordOfThese() {
        D.says(34, "The word that is just these; -2.");
        GlassPost g = Due.of(Due.SMALL + Full.WORDS + ";person a;shard a xo,oo;shard a xx,xx;shard a oo,oo;shard a xo,ox");
        int[] words = {0, 7, -2, -2};
        for (int i = 0; i < 4; i++) {
            D.fine(g, "wordOf(" + i + ")", g.wordOf(i), words[i]);
        }
        GlassPost bare = Due.of(ONE + "shard a xo,oo");
        D.fine(bare, "no words", bare.wordOf(0), -2);
        GlassPost nothing = Due.of(ONE + "shard a oo,oo;word n oo,oo");
        D.fine(nothing, "the word of nothing", nothing.wordOf(0), 0);
    }

    private static void wholes() {
        D.says(31, "WHOLES: how many.");
        GlassPost g = Due.of(Full.CITY);
        D.fine(g, "of eight shards", g.wholes(), 6);
        D.fine(g, "again", g.wholes(), 6);
    }

    /** Shards 0 to 3 are cells 0 to 3; 4 is 0 and 1; 5 is 2 and 3; 6 is all; 7 is 0 and 3. */
    private static void wholeByBits() {
        D.says(32, "The i-th, by bits, as bits of shards.");
        GlassPost g = Due.of(Full.CITY);
        int[] sets = {1 | 2 | 4 | 8, 4 | 8 | 16, 1 | 2 | 32, 16 | 32, 64, 2 | 4 | 128};
        int[] strokes = {1 | 4, 3 | 4, 1 | 12, 15, 0, 1 | 4 | 8};
        int[] words = {-2, 5, -2, 7, -2, -2};
        int[] owners = {0, 0, 1, 0, 2, 3};
        for (int i = 0; i < 6; i++) {
            D.fine(g, "whole(" + i + ")", g.whole(i), sets[i]);
            D.fine(g, "written(" + i + ")", g.written(i), strokes[i]);
            D.fine(g, "wordOf(" + i + ")", g.wordOf(i), words[i]);
            D.fine(g, "owner(" + i + ")", g.owner(i), owners[i]);
        }
    }

    private static void wholeRefused() {
        D.says(32, "NONE: 1.");
        GlassPost g = Due.of(Full.CITY);
        for (int far : FAR) {
            D.refused(g, "whole(" + far + ")", g.whole(far), 1);
        }
        D.refused(g, "whole(6)", g.whole(6), 1);
        D.refused(g, "whole(7)", g.whole(7), 1);
        GlassPost none = Due.of(ONE + "shard a xm,mm");
        D.refused(none, "no whole", none.whole(0), 1);
    }

    private static void written() {
        D.says(33, "WRITTEN, as bits.");
        GlassPost g = Due.of(TWENTY + "shard a xxxxx,xxxxx,xxxxx,xxxxx;shard a ooooo,ooooo,ooooo,ooooo;shard a ooooo,ooooo,ooooo,oooox");
        D.fine(g, "all", g.written(0), ALL);
        D.fine(g, "nothing", g.written(1), 0);
        D.fine(g, "the last", g.written(2), 1 << 19);
        D.says(33, "NONE: 1.");
        for (int far : FAR) {
            D.refused(g, "written(" + far + ")", g.written(far), 1);
        }
        D.refused(g, "written(3)", g.written(3), 1);
        GlassPost none = Due.of(Due.SMALL);
        D.refused(none, "no whole", none.written(0), 1);
    }

    private static void wordOf() {
        D.says(34, "NONE: 1.");
        GlassPost g = Due.of(Full.CITY);
        for (int far : FAR) {
            D.refused(g, "wordOf(" + far + ")", g.wordOf(far), 1);
        }
        D.refused(g, "wordOf(6)", g.wordOf(6), 1);
        GlassPost none = Due.of(Due.SMALL);
        D.refused(none, "no whole", none.wordOf(0), 1);
    }

    private static void owner() {
        D.says(35, "Its OWNER.");
        GlassPost g = Due.of(Full.CITY);
        D.fine(g, "the first has as many as all others", g.owner(0), 0);
        D.fine(g, "the last person has most", g.owner(5), 3);
        D.says(35, "NONE: 1.");
        for (int far : FAR) {
            D.refused(g, "owner(" + far + ")", g.owner(far), 1);
        }
        D.refused(g, "owner(6)", g.owner(6), 1);
        GlassPost none = Due.of(Due.SMALL + ";person a");
        D.refused(none, "a person, but no whole", none.owner(0), 1);
    }

    private static void missing() {
        D.says(36, "Cells that no shard has, as bits.");
        GlassPost none = Due.of(Due.SMALL);
        D.fine(none, "no shard", none.missing(), 15);
        GlassPost one = Due.of(ONE + "shard a mm,mo");
        D.fine(one, "all but the last", one.missing(), 7);
        GlassPost first = Due.of(ONE + "shard a xm,mm");
        D.fine(first, "all but the first", first.missing(), 14);
        GlassPost full = Due.of(Full.CITY);
        D.fine(full, "none lacks", full.missing(), 0);
        GlassPost twice = Due.of(ONE + "shard a xo,mm;shard a ox,xm");
        D.fine(twice, "had twice is had", twice.missing(), 8);
        GlassPost large = Due.of(TWENTY + "shard a mmmmm,mmmmm,mmmmm,mmmmx");
        D.fine(large, "nineteen", large.missing(), ALL >> 1);
        GlassPost bare = Due.of("city wide 5 high 4 hail 0 ice 1;pane p plain ooooo,ooooo,ooooo,ooooo");
        D.fine(bare, "twenty", bare.missing(), ALL);
    }

    private static void noCity() {
        D.says(31, "NONE: 1 (no CITY).");
        GlassPost g = new GlassPost();
        D.refused(g, "wholes()", g.wholes(), 1);
        D.says(36, "NONE: 1 (no CITY).");
        D.refused(g, "missing()", g.missing(), 1);
        D.refused(g, "a text with a fault is none", Due.city(g, ONE + "shard a mm,mm"), 4);
        D.refused(g, "wholes()", g.wholes(), 1);
        D.refused(g, "missing()", g.missing(), 1);
        D.refused(g, "whole(0)", g.whole(0), 1);
    }

    private static void actsDoNotMatter() {
        D.says(31, "WHOLES: how many.");
        GlassPost g = Due.of(Full.CITY);
        g.breaks(0);
        g.scratch(7, 0);
        g.cover(6, 0);
        D.fine(g, "wholes()", g.wholes(), 6);
        D.fine(g, "written(3)", g.written(3), 15);
        D.fine(g, "missing()", g.missing(), 0);
    }
}
