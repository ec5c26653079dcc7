/** Promises 31 to 36: wholes, whole, written, wordOf, owner, missing. */
public final class ShardsTest {
    private static final Due D = new Due("ShardsTest");
    private static final int LEAST = Integer.MIN_VALUE;
    private static final int MOST = Integer.MAX_VALUE;

    private static final String PANE = Due.HEAD + ";pane p plain xo,ox";

    /** Shards 0 and 5 are whole by themselves; 1 with 2; 1 with 3 and 4; 2 and 3 share a cell. */
    private static final String CITY = PANE + ";word a oo,oo;word b xo,ox;word c xo,ox;word d xx,xx"
            + ";person ann;person bob;person cis"
            + ";shard cis xx,xx;shard bob xo,mm;shard ann mm,ox;shard cis mm,mo;shard ann mm,om;shard bob oo,oo";

    public static void main(String[] args) {
        wholes();
        owner();
        none();
        D.end();
    }

    private static void wholes() {
        GlassPost g = Due.of(CITY);
        D.fine(g, "wholes()", g.wholes(), 4);
        int[] sets = {1, 2 | 4, 2 | 8 | 16, 32};
        int[] strokes = {15, 9, 1, 0};
        int[] words = {3, 1, -2, 0};
        int[] owners = {2, 0, 1, 1};
        for (int i = 0; i < 4; i++) {
            D.fine(g, "whole(" + i + ")", g.whole(i), sets[i]);
            D.fine(g, "written(" + i + ")", g.written(i), strokes[i]);
            D.fine(g, "wordOf(" + i + ")", g.wordOf(i), words[i]);
            D.fine(g, "owner(" + i + ")", g.owner(i), owners[i]);
        }
        for (int bad : new int[] {-1, -2, 4, LEAST, MOST}) {
            D.refused(g, "whole(" + bad + ")", g.whole(bad), 1);
            D.refused(g, "written(" + bad + ")", g.written(bad), 1);
            D.refused(g, "wordOf(" + bad + ")", g.wordOf(bad), 1);
            D.refused(g, "owner(" + bad + ")", g.owner(bad), 1);
        }
        D.fine(g, "missing()", g.missing(), 0);
        g.breaks(0);
        D.fine(g, "panes are no matter", g.wholes(), 4);
    }

    /** Cells count, not shards, and of all that a person has in it. */
    private static void owner() {
        GlassPost g = Due.of("city wide 3 high 2 hail 1 ice 1;pane p plain xxx,xxx;person a;person b;person c"
                + ";shard b omm,mmm;shard c mox,omm;shard b mmm,moo;shard a oxm,mmm;shard a mmo,omm");
        D.fine(g, "wholes()", g.wholes(), 2);
        D.fine(g, "whole(0)", g.whole(0), 7);
        D.fine(g, "of like ones the first", g.owner(0), 1);
        D.fine(g, "written(0)", g.written(0), 4);
        D.fine(g, "whole(1)", g.whole(1), 4 | 8 | 16);
        D.fine(g, "most cells", g.owner(1), 0);
        D.fine(g, "written(1)", g.written(1), 2);
        D.fine(g, "no word", g.wordOf(1), -2);
    }

    private static void none() {
        GlassPost g = Due.of(PANE);
        D.fine(g, "wholes without shards", g.wholes(), 0);
        D.fine(g, "missing without shards", g.missing(), 15);
        D.refused(g, "whole(0)", g.whole(0), 1);
        GlassPost some = Due.of(PANE + ";person a;shard a xm,om;shard a xo,mm");
        D.fine(some, "a cell lacks", some.wholes(), 0);
        D.fine(some, "missing()", some.missing(), 8);
        GlassPost large = Due.of("city wide 5 high 4 hail 1 ice 1;pane p plain ooooo,ooooo,ooooo,ooooo;person a"
                + ";shard a xxxxx,xxxxx,xxxxx,xxxxx;shard a ooooo,ooooo,ooooo,oooom");
        D.fine(large, "twenty cells", large.written(0), (1 << 20) - 1);
        D.fine(large, "only one has them all", large.wholes(), 1);
        GlassPost twins = Due.of(PANE + ";person a" + ";shard a xx,mm".repeat(4) + ";shard a mm,oo".repeat(4));
        D.fine(twins, "eight shards", twins.wholes(), 16);
        D.fine(twins, "the first by bits", twins.whole(0), 1 | 16);
        D.fine(twins, "the second by bits", twins.whole(1), 2 | 16);
        D.fine(twins, "the last by bits", twins.whole(15), 8 | 128);
        D.refused(twins, "no more", twins.whole(16), 1);
    }
}
