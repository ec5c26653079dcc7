/** Promises 37 to 42: shelf, gain, rests, rest, left, hails. */
public final class ShelfTest {
    private static final Due D = new Due("ShelfTest");
    private static final int LEAST = Integer.MIN_VALUE;
    private static final int MOST = Integer.MAX_VALUE;

    public static void main(String[] args) {
        shelf();
        shelfOfNothing();
        gain();
        rests();
        restsOfBrokenOnes();
        hail();
        hailByHand();
        days();
        D.end();
    }

    /** Light of the panes: 2, 1, 2, 3, 1. */
    private static String panes(int room) {
        return Due.HEAD + ";pane a plain xo,ox;pane b plain xx,xo;pane c ice oo,xx;pane d plain ox,oo;pane e thick ox,xx"
                + ";shelf " + room;
    }

    private static void shelf() {
        for (int room : new int[] {0, 1, 2, 3, 4, 5, 6, 7, 8, 9, 10, 99}) {
            GlassPost g = Due.of(panes(room));
            D.fine(g, "shelf of " + room, g.shelf(), byHand(room));
        }
        GlassPost g = Due.of(panes(4));
        D.fine(g, "of like ones the most light", g.shelf(), 1 | 2 | 16);
        g.breaks(1);
        D.fine(g, "not the broken ones", g.shelf(), 1 | 4);
        g.scratch(3, 0);
        g.scratch(3, 2);
        g.scratch(3, 3);
        D.fine(g, "light as it is now", g.shelf(), 1 | 4 | 8);
        g.cover(0, 0);
        D.fine(g, "putty is no matter", g.shelf(), 1 | 4 | 8);
        g.breaks(0);
        g.breaks(2);
        D.fine(g, "the rest", g.shelf(), 8 | 16);
    }

    /** Written out by counting: light 2, 1, 2, 3, 1. */
    private static int byHand(int room) {
        switch (room) {
            case 0: return 0;
            case 1: return 2;
            case 2: return 2 | 16;
            case 3: return 1 | 2;
            case 4: return 1 | 2 | 16;
            case 5: return 1 | 2 | 4;
            case 6: return 1 | 2 | 4 | 16;
            case 7: return 1 | 2 | 8 | 16;
            case 8: return 1 | 2 | 4 | 8;
            default: return 31;
        }
    }

    private static void shelfOfNothing() {
        GlassPost none = Due.of(Due.HEAD + ";pane a plain xo,ox");
        D.refused(none, "no shelf", none.shelf(), 6);
        GlassPost full = Due.of(Due.HEAD + ";pane a plain xx,xx;pane b plain xx,xx;shelf 0");
        D.fine(full, "panes without light", full.shelf(), 3);
        full.breaks(0);
        full.breaks(1);
        D.fine(full, "all are broken", full.shelf(), 0);
    }

    private static void gain() {
        GlassPost g = Due.of(Due.HEAD + ";pane p plain xx,xo;pane q plain oo,oo;word a xx,oo;word n oo,oo"
                + ";view low oo,xx;view left xo,xo");
        D.fine(g, "not read", g.gain(0, -2), 3);
        D.fine(g, "read", g.gain(0, 0), -2);
        D.fine(g, "not read", g.gain(0, 1), 1);
        D.fine(g, "nothing seen", g.gain(1, -2), 0);
        g.cover(0, 2);
        D.fine(g, "read behind putty", g.gain(0, -2), -2);
        for (int bad : new int[] {-1, -3, 2, LEAST, MOST}) {
            D.told(g, "gain(" + bad + ", -2)", g.gain(bad, -2), -100, 1);
            D.told(g, "gain(0, " + bad + ")", g.gain(0, bad), -100, 1);
        }
        g.breaks(0);
        D.told(g, "gain of a broken one", g.gain(0, -2), -100, 5);
        D.told(g, "a broken one, no view", g.gain(0, 2), -100, 1);
    }

    /** The writer has p: 3, 2; q: 1, 1 against none and dim. */
    private static void rests() {
        GlassPost g = Due.of(Due.HEAD + ";pane q plain ox,oo;pane p plain xx,xo;view dim oo,xx");
        D.fine(g, "gain(1, -2)", g.gain(1, -2), 3);
        D.fine(g, "rests()", g.rests(), 1);
        D.fine(g, "rest()", g.rest(), 11);
        GlassPost even = Due.of(Due.HEAD + ";pane q plain ox,oo;pane p plain xo,oo;view clear oo,oo;view too oo,oo");
        D.fine(even, "like ones are all rests", even.rests(), 6);
        D.fine(even, "the first: pane 0, none", even.rest(), 0);
        GlassPost none = Due.of(Due.HEAD + ";pane p plain xo,oo;pane q plain ox,oo;word a xo,oo;word b ox,oo"
                + ";view left xo,xo;view right ox,ox");
        D.fine(none, "gain(0, 0)", none.gain(0, 0), 0);
        D.fine(none, "gain(1, 0)", none.gain(1, 0), -1);
        D.fine(none, "both are read against none", none.rests(), 2);
        D.fine(none, "rest() against none", none.rest(), 0);
        GlassPost open = Due.of(Due.HEAD + ";pane p plain xx,oo;word a xx,oo;view top xo,oo;view low ox,oo");
        D.fine(open, "read against none alone", open.rests(), 1);
        D.fine(open, "the reader looks against none", open.rest(), 0);
        GlassPost no = Due.of(Due.HEAD + ";pane p plain xx,oo;pane q plain oo,xx;view top xx,oo;view low oo,xx");
        D.fine(no, "each flees the other", no.rests(), 0);
        D.fine(no, "no rest", no.rest(), -2);
    }

    private static void restsOfBrokenOnes() {
        GlassPost g = Due.of(Due.HEAD + ";pane q plain ox,oo;pane p plain xx,xo;view dim oo,xx");
        g.breaks(1);
        D.fine(g, "with q alone", g.rests(), 2);
        D.fine(g, "rest() of q", g.rest(), 0);
        g.undo();
        g.breaks(0);
        D.fine(g, "with p alone", g.rests(), 1);
        D.fine(g, "rest() of p", g.rest(), 11);
        g.breaks(1);
        D.fine(g, "with none", g.rests(), 0);
        D.fine(g, "rest() with none", g.rest(), -2);
    }

    /** By seed 0 the draws are 74, 5624, 28652, 51790, ... */
    private static void hail() {
        GlassPost g = Due.of(Due.HEAD + ";pane p plain xo,ox;pane q thick ox,xx;pane r ice xx,oo");
        D.fine(g, "no day", g.left(0, 0), 7);
        D.fine(g, "no day, no hail", g.hails(0, 0), 0);
        D.fine(g, "74 is no hail", g.left(0, 1), 7);
        D.fine(g, "hails(0, 1)", g.hails(0, 1), 0);
        D.fine(g, "28652 mod 3 breaks r", g.left(0, 2), 3);
        D.fine(g, "hails(0, 2)", g.hails(0, 2), 1);
        for (int bad : new int[] {-1, 65537, LEAST, MOST}) {
            D.refused(g, "left(" + bad + ", 1)", g.left(bad, 1), 2);
            D.refused(g, "hails(" + bad + ", 1)", g.hails(bad, 1), 2);
        }
        for (int bad : new int[] {-1, 100, LEAST, MOST}) {
            D.refused(g, "left(1, " + bad + ")", g.left(1, bad), 2);
            D.refused(g, "hails(1, " + bad + ")", g.hails(1, bad), 2);
        }
        D.due("nothing breaks in fact", g.pane(2, 3), 0);
        g.breaks(0);
        D.fine(g, "broken ones are gone", g.left(0, 0), 6);
        D.fine(g, "from now on", g.left(0, 1), 6);
    }

    private static void hailByHand() {
        GlassPost thick = Due.of("city wide 2 high 2 hail 99 ice 60;pane q thick ox,xx;pane r thick ox,xx");
        D.fine(thick, "thick ones stay", thick.left(5, 99), 3);
        D.due("but it hails", thick.hails(5, 99) > 90, true);
        GlassPost calm = Due.of("city wide 2 high 2 hail 0 ice 3;pane p plain ox,xx;pane r ice ox,xx");
        D.fine(calm, "no hail ever", calm.hails(65536, 99), 0);
        D.fine(calm, "ice is there on its last day's eve", calm.left(65536, 2), 3);
        D.fine(calm, "ice melts at the end of its day", calm.left(65536, 3), 1);
        D.fine(calm, "ice stays away", calm.left(0, 99), 1);
        GlassPost one = Due.of("city wide 2 high 2 hail 75 ice 1;pane p plain ox,xx;pane r ice ox,xx");
        D.fine(one, "74 is below 75; 75 times 74 and 74 is even", one.left(0, 1), 0);
        D.fine(one, "one hail", one.hails(0, 1), 1);
        GlassPost first = Due.of("city wide 2 high 2 hail 75 ice 3;pane r ice ox,xx");
        D.fine(first, "hails asked first", first.hails(0, 1), 1);
        D.fine(first, "one pane: it is hit", first.left(0, 1), 0);
        D.fine(first, "65,536 stays so, and 36 is below 75", first.hails(65536, 9), 9);
        GlassPost melts = Due.of("city wide 2 high 2 hail 0 ice 1;pane r ice ox,xx;pane p plain ox,xx");
        D.fine(melts, "the first one melts", melts.left(7, 1), 2);
        GlassPost edge = Due.of("city wide 2 high 2 hail 74 ice 9;pane p plain ox,xx;pane r ice ox,xx");
        D.fine(edge, "74 is not below 74", edge.hails(0, 1), 0);
    }

    /** Against a plain count of the days, over many seeds. */
    private static void days() {
        GlassPost g = Due.of("city wide 2 high 2 hail 30 ice 7;pane a plain oo,oo;pane b ice oo,oo;pane c thick oo,oo"
                + ";pane d ice oo,oo;pane e plain oo,oo;pane f plain oo,oo;pane h plain oo,oo");
        g.breaks(4);
        for (int seed = 0; seed <= 65536; seed += 2048) {
            int n = seed / 2048 * 3;
            long s = seed;
            int left = 127 & ~16;
            int hails = 0;
            for (int day = 1; day <= n; day++) {
                s = (75 * s + 74) % 65537;
                if (s % 100 < 30) {
                    hails++;
                    s = (75 * s + 74) % 65537;
                    if (s % 7 != 2) {
                        left &= ~(1 << (s % 7));
                    }
                }
                if (day == 7) {
                    left &= ~(2 | 8);
                }
            }
            D.fine(g, "left(" + seed + ", " + n + ")", g.left(seed, n), left);
            D.fine(g, "hails(" + seed + ", " + n + ")", g.hails(seed, n), hails);
        }
    }
}
