/** Promises 21 to 24: sent, readers, overheard, unread. */
public final class PlanTest {
    private static final Due D = new Due("PlanTest");
    private static final int LEAST = Integer.MIN_VALUE;
    private static final int MOST = Integer.MAX_VALUE;

    private static final String CITY = Due.HEAD
            + ";pane p plain xo,ox;pane q thick xx,xx"
            + ";word one xo,oo;word two oo,ox;word both xo,ox"
            + ";view clear oo,oo;view low oo,ox;view top xx,oo"
            + ";corner a clear;corner b low;corner c top;corner d clear;corner e low;corner f clear"
            + ";street a b 1 breaks 0;street b c 1 breaks 0;street c d 1 breaks 0;street d e 1 breaks 0"
            + ";street a c 9 breaks 0;thief e;thief c;thief b;thief f"
            + ";sent p a d;sent p d e;sent q a e;sent p a f;sent p f f;sent p d d";

    public static void main(String[] args) {
        sent();
        readers();
        brokenAndBack();
        thiefAtTheFirstCorner();
        noLetters();
        D.end();
    }

    private static void sent() {
        GlassPost g = Due.of(CITY);
        int[][] letters = {{0, 0, 3, 3}, {0, 3, 4, 1}, {1, 0, 4, 4}, {0, 0, 5, -2}, {0, 5, 5, 0}, {0, 3, 3, 0}};
        for (int l = 0; l < letters.length; l++) {
            for (int what = 0; what < 4; what++) {
                D.fine(g, "sent(" + l + ", " + what + ")", g.sent(l, what), letters[l][what]);
            }
        }
        for (int bad : new int[] {-1, -2, 6, 7, LEAST, MOST}) {
            D.refused(g, "sent(" + bad + ", 0)", g.sent(bad, 0), 1);
            D.refused(g, "readers(" + bad + ")", g.readers(bad), 1);
            D.refused(g, "overheard(" + bad + ")", g.overheard(bad), 1);
        }
        for (int bad : new int[] {-1, 4, LEAST, MOST}) {
            D.refused(g, "sent(0, " + bad + ")", g.sent(0, bad), 1);
        }
        g.breaks(0);
        D.fine(g, "minutes of a broken one", g.sent(0, 3), 3);
        D.fine(g, "pane of a broken one", g.sent(0, 0), 0);
    }

    /** Corners as bits, not thieves as they are told; a thief at either end reads, too. */
    private static void readers() {
        GlassPost g = Due.of(CITY);
        D.fine(g, "readers on the way", g.readers(0), 1 << 1 | 1 << 2);
        D.fine(g, "overheard on the way", g.overheard(0), 1 | 2);
        D.fine(g, "reader at the end", g.readers(1), 1 << 4);
        D.fine(g, "overheard at the end", g.overheard(1), 1);
        D.fine(g, "thieves who can't read it", g.readers(2), 0);
        D.fine(g, "nothing overheard", g.overheard(2), 0);
        D.fine(g, "no way", g.readers(3), 0);
        D.fine(g, "nothing overheard without a way", g.overheard(3), 0);
        D.fine(g, "reader where it stays", g.readers(4), 1 << 5);
        D.fine(g, "overheard where it stays", g.overheard(4), 4);
        D.fine(g, "no thief there", g.readers(5), 0);
        D.fine(g, "unread: none reads, or there is no way", g.unread(), 1 << 2 | 1 << 3 | 1 << 5);
    }

    private static void brokenAndBack() {
        GlassPost g = Due.of(CITY);
        g.scratch(0, 1);
        D.fine(g, "readers of a scratched one", g.readers(0), 1 << 2);
        D.fine(g, "overheard of a scratched one", g.overheard(0), 2);
        g.cover(0, 3);
        D.fine(g, "readers of a puttied one", g.readers(0), 0);
        D.fine(g, "unread now", g.unread(), 63);
        g.undo();
        g.undo();
        D.fine(g, "readers as before", g.readers(0), 6);
        g.breaks(0);
        D.fine(g, "readers of a broken one", g.readers(0), 0);
        D.fine(g, "overheard of a broken one", g.overheard(0), 0);
        D.fine(g, "unread with a broken one", g.unread(), 63);
        g.undo();
        D.fine(g, "unread as before", g.unread(), 1 << 2 | 1 << 3 | 1 << 5);
    }

    /** Corner 0 reads what passes it, and nothing else. */
    private static void thiefAtTheFirstCorner() {
        GlassPost g = Due.of(Due.HEAD + ";pane p plain xo,ox;word w xo,ox;view v oo,oo;corner a v;corner b v;corner c v"
                + ";street a b 1 breaks 0;street b c 1 breaks 0;thief a;sent p a b;sent p b c;sent p c a");
        D.fine(g, "from it", g.readers(0), 1);
        D.fine(g, "overheard from it", g.overheard(0), 1);
        D.fine(g, "past it", g.readers(1), 0);
        D.fine(g, "overheard past it", g.overheard(1), 0);
        D.fine(g, "to it", g.readers(2), 1);
        D.fine(g, "unread", g.unread(), 2);
        D.fine(g, "secret from it", g.secret(0, 0, 1), -2);
        D.fine(g, "secret past it", g.secret(0, 1, 2), 1);
    }

    private static void noLetters() {
        GlassPost g = Due.of(Due.HEAD + ";pane p plain xo,ox");
        D.fine(g, "unread without letters", g.unread(), 0);
        D.refused(g, "readers without letters", g.readers(0), 1);
        D.refused(g, "sent without letters", g.sent(0, 0), 1);
    }
}
