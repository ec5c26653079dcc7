/** Promises 49 to 51: led, size, trouble. */
public final class ToldTest {
    private static final Due D = new Due("ToldTest");
    private static final int LEAST = Integer.MIN_VALUE;
    private static final int MOST = Integer.MAX_VALUE;

    private static final String CITY = "city wide 2 high 3 hail 42 ice 17"
            + ";pane a plain xo,oo,oo;pane b plain xx,oo,oo;pane c thick ox,oo,oo;pane d ice xo,oo,oo;pane e plain oo,oo,oo"
            + ";word u xo,oo,oo;word v ox,oo,oo;view clear oo,oo,oo;view dark xx,xx,xx;view half oo,xx,xx"
            + ";corner ca clear;corner cb dark;corner cc half;corner cd clear"
            + ";street ca cb 1 breaks 1;street cc cb 2 breaks 2;thief cd;sent a ca cb"
            + ";person pa;person pb;shard pa xm,mm,mm;shard pb mx,mm,mm;shard pb mm,oo,oo;shard pa xx,xx,xx;shelf 3";

    public static void main(String[] args) {
        led();
        size();
        trouble();
        D.end();
    }

    private static void led() {
        GlassPost g = Due.of(CITY);
        D.due("led(0)", g.led(0), 0);
        D.due("led(1)", g.led(1), 2);
        D.due("led(2)", g.led(2), 3);
        for (int bad : new int[] {-1, -2, 3, 5, LEAST, MOST}) {
            D.noSuchLed(g, bad);
        }
        g.cover(1, 1);
        D.due("led(1) with a puttied one", g.led(1), 1);
        D.due("led(3) with a puttied one", g.led(3), 3);
        g.breaks(0);
        D.due("led(0) without a broken one", g.led(0), 1);
        D.noSuchLed(g, 3);
        g.scratch(4, 1);
        D.due("led(3) with a scratched one", g.led(3), 4);
        GlassPost empty = Due.of("city wide 2 high 2 hail 0 ice 1;pane p plain oo,oo;word n oo,oo");
        D.due("a word without strokes is read", empty.led(0), 0);
        GlassPost none = Due.of("city wide 2 high 2 hail 0 ice 1;pane p plain oo,oo");
        D.noSuchLed(none, 0);
    }

    private static void size() {
        GlassPost g = Due.of(CITY);
        int[] sizes = {2, 3, 42, 17, 5, 2, 3, 4, 2, 1, 1, 2, 4, 0, 0, 0};
        for (int what = 0; what < sizes.length; what++) {
            D.due("size(" + what + ")", g.size(what), sizes[what]);
        }
        g.scratch(0, 1);
        g.cover(0, 1);
        g.mark();
        g.feed(1, 2, 3, 4, 5);
        D.due("size(13)", g.size(13), 2);
        D.due("size(14)", g.size(14), 1);
        D.due("size(15)", g.size(15), 20);
        g.breaks(0);
        D.due("a broken one is a pane", g.size(4), 5);
        for (int bad : new int[] {-1, -2, 16, LEAST, MOST}) {
            D.due("size(" + bad + ")", g.size(bad), -1);
        }
        GlassPost bare = Due.of("city wide 5 high 2 hail 0 ice 1;pane p plain ooooo,ooooo");
        for (int what = 5; what <= 15; what++) {
            D.due("size(" + what + ") of what there isn't", bare.size(what), 0);
        }
    }

    /** Calls of which no number is told leave the number of the one before. */
    private static void trouble() {
        GlassPost g = Due.of(CITY);
        D.due("trouble() behind a good city", g.trouble(), 0);
        g.word(9);
        D.due("trouble()", g.trouble(), 1);
        D.due("trouble() again", g.trouble(), 1);
        g.size(99);
        g.fault();
        g.where();
        g.led(0);
        D.noSuchLed(g, 99);
        g.feed(0, 0, 0, 0, 0);
        D.due("trouble() behind calls without a number", g.trouble(), 1);
        g.left(0, 100);
        D.due("a number", g.trouble(), 2);
        g.soonest(0, 3);
        D.due("none, but not refused", g.trouble(), 0);
        g.breaks(2);
        D.due("not so", g.trouble(), 5);
        g.undo();
        D.due("there is none", g.trouble(), 6);
        g.mark();
        g.mark();
        g.mark();
        D.due("a third mark", g.trouble(), 0);
        g.mark();
        D.due("no room", g.trouble(), 3);
        g.feed(0, 0, 0, 0, 0);
        g.city(40);
        D.due("a fault", g.trouble(), 4);
        D.due("where()", g.where(), 0);
        g.back(0);
        D.due("trouble() behind back", g.trouble(), 0);
    }
}
