/** The edges of promises 37 to 42, sentence by sentence, with those of term III that are about the shelf, the game and hail. */
public final class EdgeShelfTest {
    private static final Due D = new Due("EdgeShelfTest");
    private static final int ALL = Full.ALL;
    private static final int[] FAR = {-1, -3, 8, 9, 31, 32, 33, 1 << 20, Due.LEAST, Due.LEAST + 1, Due.MOST, Due.MOST - 1};

    public static void main(String[] args) {
        light();
        mostPanes();
        notBroken();
        mostLight();
        leastBits();
        shelf();
        noShelf();
        soMuch();
        lessSoMuch();
        gain();
        neitherBetter();
        noneAheadOfAll();
        rests();
        rest();
        noCityForAGame();
        iceMelts();
        belowHail();
        thatOneBreaks();
        seedBecomes();
        fromNowOn();
        left();
        leftRefused();
        hails();
        hailsRefused();
        D.end();
    }

    private static void light() {
        D.says("III", "LIGHT of a pane: cells without strokes NOW.");
        GlassPost g = Due.of(Full.LARGE);
        int[] light = {20, 0, 19, 19};
        for (int p = 0; p < 4; p++) {
            D.fine(g, "light of " + p, g.pane(p, 4), light[p]);
        }
        for (int cell = 0; cell < 20; cell++) {
            g.scratch(0, cell);
            D.fine(g, "light behind scratch " + cell, g.pane(0, 4), 19 - cell);
        }
        g.undo();
        D.fine(g, "light behind undo", g.pane(0, 4), 1);
        g.cover(1, 0);
        D.fine(g, "putty takes no stroke away", g.pane(1, 4), 0);
    }

    /** Panes of light 4, 3, 2, 1, 0. */
    private static String panes(int room) {
        return Due.HEAD + ";pane a plain oo,oo;pane b plain xo,oo;pane c plain xx,oo;pane d plain xx,xo;pane e thick xx,xx;shelf " + room;
    }

    private static void mostPanes() {
        D.says("III", "SHELF: the most panes (not broken) that have no more LIGHT together than it;");
        int[] due = {16, 8 | 16, 4 | 16, 4 | 8 | 16, 2 | 8 | 16, 2 | 4 | 16, 2 | 4 | 8 | 16, 1 | 4 | 8 | 16, 1 | 2 | 8 | 16,
            1 | 2 | 4 | 16, 31, 31};
        for (int room = 0; room < due.length; room++) {
            GlassPost g = Due.of(panes(room));
            D.fine(g, "shelf of " + room, g.shelf(), due[room]);
        }
        StringBuilder text = new StringBuilder("city wide 5 high 4 hail 0 ice 1");
        for (char c = 'a'; c <= 'h'; c++) {
            text.append(";pane ").append(c).append(" ice ooooo,ooooo,ooooo,ooooo");
        }
        GlassPost bright = Due.of(text + ";shelf 99");
        D.fine(bright, "four of twenty each in 99", bright.shelf(), 15);
        GlassPost edge = Due.of(text + ";shelf 80");
        D.fine(edge, "four in 80", edge.shelf(), 15);
        GlassPost below = Due.of(text + ";shelf 79");
        D.fine(below, "three in 79", below.shelf(), 7);
        GlassPost none = Due.of(text + ";shelf 19");
        D.fine(none, "none in 19", none.shelf(), 0);
        GlassPost dark = Due.of(text.toString().replace('o', 'x').replace("pxne", "pane") + ";shelf 0");
        D.fine(dark, "all eight in 0", dark.shelf(), 255);
    }

    private static void notBroken() {
        D.says("III", "the most panes (not broken)");
        GlassPost g = Due.of(panes(99));
        int whole = 31;
        for (int p = 0; p < 4; p++) {
            g.breaks(p);
            whole &= ~(1 << p);
            D.fine(g, "shelf without " + p, g.shelf(), whole);
        }
        g.undo();
        D.fine(g, "whole again", g.shelf(), 8 | 16);
        GlassPost one = Due.of(Due.SMALL + ";shelf 99");
        one.breaks(0);
        D.fine(one, "all are broken", one.shelf(), 0);
    }

    private static void mostLight() {
        D.says("III", "of like ones of most LIGHT");
        GlassPost g = Due.of(Due.HEAD + ";pane a plain xx,xo;pane b plain xx,oo;pane c plain oo,oo;shelf 3");
        D.fine(g, "1 and 2 are two", g.shelf(), 3);
        GlassPost h = Due.of(Due.HEAD + ";pane a plain xx,xo;pane b plain xx,oo;pane c plain xo,oo;shelf 2");
        D.fine(h, "2 ahead of 1", h.shelf(), 2);
        GlassPost i = Due.of(Due.HEAD + ";pane a plain xx,xo;pane b plain xx,oo;pane c plain xo,oo;shelf 4");
        D.fine(i, "1 and 3 ahead of 1 and 2", i.shelf(), 5);
        GlassPost j = Due.of(Due.HEAD + ";pane a plain xx,xo;pane b plain xx,oo;pane c plain xo,oo;shelf 5");
        D.fine(j, "2 and 3 ahead of all", j.shelf(), 6);
    }

    private static void leastBits() {
        D.says("III", ", then the least bits.");
        GlassPost g = Due.of(Due.HEAD + ";pane a plain xx,oo;pane b plain xo,xo;pane c plain ox,ox;pane d plain oo,xx;shelf 4");
        D.fine(g, "the first two of four", g.shelf(), 3);
        g.breaks(0);
        D.fine(g, "the first two that are whole", g.shelf(), 6);
        GlassPost h = Due.of(Due.HEAD + ";pane a plain oo,oo;pane b plain xo,oo;pane c plain xx,oo;pane d plain xx,xo;shelf 5");
        D.fine(h, "4 and 1, 3 and 2: the bits of 2 and 3 are less", h.shelf(), 6);
    }

    private static void shelf() {
        D.says(37, "SHELF, as bits of panes.");
        GlassPost g = Due.of(Full.CITY);
        D.fine(g, "light 3 3 3 3 2 2 0 4 in 9", g.shelf(), 1 | 2 | 4 | 64);
        D.fine(g, "again", g.shelf(), 1 | 2 | 4 | 64);
        g.scratch(7, 0);
        g.scratch(7, 1);
        g.scratch(7, 2);
        g.scratch(7, 3);
        D.fine(g, "the last one, now", g.shelf(), 1 | 2 | 4 | 64 | 128);
        GlassPost zero = Due.of(Due.SMALL + ";shelf 0");
        D.fine(zero, "a shelf of 0 is a shelf", zero.shelf(), 0);
    }

    private static void noShelf() {
        D.says(37, "NONE: 1 (no CITY); 6 (no shelf).");
        GlassPost g = new GlassPost();
        D.refused(g, "no city", g.shelf(), 1);
        Due.city(g, Due.SMALL + ";shelf 9;");
        D.refused(g, "a text with a fault is none", g.shelf(), 1);
        Due.city(g, Due.SMALL);
        D.refused(g, "no shelf", g.shelf(), 6);
        Due.city(g, Due.SMALL + ";shelf 9;");
        D.refused(g, "the shelf of a text with a fault is none", g.shelf(), 6);
        Due.city(g, Due.SMALL + ";shelf 9");
        D.fine(g, "a shelf", g.shelf(), 1);
        Due.city(g, Due.SMALL);
        D.refused(g, "it went with its city", g.shelf(), 6);
    }

    private static void soMuch() {
        D.says("III", "A GAME: a writer chooses a pane, a reader a VIEW (or none, ahead of all): the writer has so much as strokes are SEEN, if no word is READ");
        GlassPost g = Due.of(Full.LARGE.replace(";word all xxxxx,xxxxx,xxxxx,xxxxx", ""));
        D.fine(g, "twenty", g.gain(1, -2), 20);
        D.fine(g, "nineteen", g.gain(1, 2), 19);
        D.fine(g, "fifteen", g.gain(1, 3), 15);
        D.fine(g, "one", g.gain(3, -2), 1);
        GlassPost bare = Due.of(Due.HEAD + ";pane p plain oo,oo");
        D.fine(bare, "nothing", bare.gain(0, -2), 0);
    }

    private static void lessSoMuch() {
        D.says("III", "else less so much; the reader the contrary.");
        GlassPost g = Due.of(Full.LARGE);
        D.fine(g, "less twenty", g.gain(1, -2), -20);
        D.fine(g, "less one", g.gain(2, -2), -1);
        D.fine(g, "the word of nothing: less nothing", g.gain(0, -2), 0);
        D.fine(g, "all is dark", g.gain(1, 1), 0);
        g.cover(1, 0);
        D.fine(g, "not read any more", g.gain(1, -2), 19);
    }

    private static void gain() {
        D.says(38, "What the writer has by a pane, a VIEW.");
        GlassPost g = Due.of(Full.CITY);
        D.fine(g, "the first against none", g.gain(0, -2), -1);
        D.fine(g, "the last against the last", g.gain(7, 5), 0);
        D.fine(g, "pane 3 against the first", g.gain(3, 0), 1);
        D.fine(g, "pane 6 against vc", g.gain(6, 2), 3);
        D.says(38, "-100: 1; 5.");
        for (int far : FAR) {
            D.told(g, "gain(" + far + ", -2)", g.gain(far, -2), -100, 1);
            D.told(g, "gain(0, " + far + ")", g.gain(0, far), -100, 1);
        }
        D.told(g, "gain(-2, -2)", g.gain(-2, -2), -100, 1);
        D.told(g, "gain(0, 6)", g.gain(0, 6), -100, 1);
        g.breaks(7);
        D.told(g, "broken", g.gain(7, -2), -100, 5);
        D.told(g, "broken, and no view", g.gain(7, 6), -100, 1);
        D.fine(g, "the one ahead of it", g.gain(6, -2), -4);
    }

    private static void neitherBetter() {
        D.says("III", "REST: a pair by which neither could do better alone.");
        GlassPost like = Due.of(Due.HEAD + ";pane a plain xo,oo;pane b plain ox,oo;view v oo,oo");
        D.fine(like, "as good is not better", like.rests(), 4);
        GlassPost writer = Due.of(Due.HEAD + ";pane a plain xo,oo;pane b plain xx,oo");
        D.fine(writer, "the writer, who has chosen a, could do better", writer.rests(), 1);
        D.fine(writer, "so it is b", writer.rest(), 10);
        GlassPost reader = Due.of(Due.HEAD + ";pane a plain xx,oo;view v xo,oo");
        D.fine(reader, "the reader, who has chosen none, could do better", reader.rests(), 1);
        D.fine(reader, "so it is v", reader.rest(), 1);
        GlassPost bare = Due.of(Due.HEAD + ";pane a plain xx,oo;word w xx,oo;view v xo,oo;view u ox,oo");
        D.fine(bare, "the reader, who has chosen v or u, could do better", bare.rests(), 1);
        D.fine(bare, "so it is none", bare.rest(), 0);
        GlassPost flee = Due.of(Due.HEAD + ";pane a plain xx,oo;pane b plain oo,xx;view v xx,oo;view w oo,xx");
        D.fine(flee, "each time one could", flee.rests(), 0);
        D.fine(flee, "so there is none", flee.rest(), -2);
    }

    private static void noneAheadOfAll() {
        D.says("III", "a reader a VIEW (or none, ahead of all)");
        GlassPost bare = Due.of(Due.SMALL);
        D.fine(bare, "none is a choice", bare.rests(), 1);
        D.fine(bare, "the first", bare.rest(), 0);
        GlassPost clear = Due.of(Due.SMALL + ";view v oo,oo");
        D.fine(clear, "none and v", clear.rests(), 2);
        D.fine(clear, "none is ahead", clear.rest(), 0);
        GlassPost dark = Due.of(Due.SMALL + ";view v xo,oo;word w oo,ox");
        D.fine(dark, "v alone", dark.rest(), 1);
    }

    private static void rests() {
        D.says(39, "How many RESTS (panes that aren't broken).");
        StringBuilder text = new StringBuilder(Due.HEAD);
        for (char c = 'a'; c <= 'h'; c++) {
            text.append(";pane ").append(c).append(" ice xo,oo");
        }
        for (char c = 'p'; c <= 'u'; c++) {
            text.append(";view ").append(c).append(" oo,oo");
        }
        GlassPost g = Due.of(text.toString());
        for (int p = 0; p < 8; p++) {
            D.fine(g, "rests of " + (8 - p), g.rests(), 7 * (8 - p));
            D.fine(g, "the first of " + (8 - p), g.rest(), 10 * p);
            g.breaks(p);
        }
        D.fine(g, "all are broken", g.rests(), 0);
        D.fine(g, "no rest", g.rest(), -2);
        GlassPost best = Due.of(Due.HEAD + ";pane a plain xo,oo;pane b plain xx,xx");
        D.fine(best, "a broken one is no choice for the writer", best.rest(), 10);
        best.breaks(1);
        D.fine(best, "so a rests", best.rest(), 0);
    }

    private static void rest() {
        D.says(40, "The first, by panes, then VIEWS: 10 times the pane and the VIEW and 1 (0: none); -2.");
        StringBuilder text = new StringBuilder(Due.HEAD);
        for (char c = 'a'; c <= 'g'; c++) {
            text.append(";pane ").append(c).append(" ice xo,oo");
        }
        text.append(";pane h ice xx,xx");
        for (char c = 'p'; c <= 't'; c++) {
            text.append(";view ").append(c).append(" oo,oo");
        }
        GlassPost last = Due.of(text + ";view u oo,ox");
        D.fine(last, "one alone", last.rests(), 1);
        D.fine(last, "the last pane, the last view", last.rest(), 76);
        GlassPost two = Due.of(Due.HEAD + ";pane a plain oo,oo;pane b plain xo,oo;pane c plain oo,ox;view v xx,oo;view w xx,xo;view u ox,xx");
        D.fine(two, "rests of two", two.rests(), 0);
        D.fine(two, "none", two.rest(), -2);
        GlassPost views = Due.of(Due.HEAD + ";pane a plain xo,oo;pane b plain xx,oo;view u oo,oo;view v xo,oo;view w ox,oo");
        D.fine(views, "v and w, and w breaks no tie", views.rests(), 2);
        D.fine(views, "b by v", views.rest(), 12);
    }

    private static void noCityForAGame() {
        D.says(39, "NONE: 1 (no CITY).");
        GlassPost g = new GlassPost();
        D.refused(g, "rests()", g.rests(), 1);
        D.says(40, "NONE: 1 (no CITY).");
        D.refused(g, "rest()", g.rest(), 1);
        Due.city(g, Due.SMALL + ";");
        D.refused(g, "rests() behind a fault", g.rests(), 1);
        D.refused(g, "rest() behind a fault", g.rest(), 1);
    }

    private static String weather(int hail, int ice, String panes) {
        return "city wide 2 high 2 hail " + hail + " ice " + ice + panes;
    }

    private static final String THREE = ";pane p plain oo,oo;pane t thick oo,oo;pane i ice oo,oo";

    private static void iceMelts() {
        D.says("III", "DAYS of hail by a SEED: n days: those of ice melt at the end of the day told for it (day 1 the first);");
        for (int ice : new int[] {1, 2, 59, 60}) {
            GlassPost g = Due.of(weather(0, ice, THREE));
            for (int n : new int[] {0, 1, 2, 58, 59, 60, 61, 98, 99}) {
                D.fine(g, "ice " + ice + " left behind " + n, g.left(0, n), n < ice ? 7 : 3);
            }
        }
        GlassPost two = Due.of(weather(0, 1, ";pane i ice oo,oo;pane j ice xx,xx"));
        D.fine(two, "all of ice", two.left(0, 1), 0);
        GlassPost day = Due.of(weather(37, 1, ";pane i ice oo,oo;pane j ice xx,xx"));
        D.fine(day, "it hails on the day, too", day.hails(65536, 1), 1);
    }

    /** By seed 65,536 each draw is 65,536; by 45,438 the first is 0, by 41,944 it is 98, by 21,846 it is 99. */
    private static void belowHail() {
        D.says("III", "each day a DRAW mod 100 below hail: it hails:");
        int[][] due = {{0, 45438, 0}, {1, 45438, 1}, {36, 65536, 0}, {37, 65536, 1}, {98, 41944, 0}, {99, 41944, 1},
            {99, 21846, 0}, {74, 0, 0}, {75, 0, 1}};
        for (int[] d : due) {
            GlassPost g = Due.of(weather(d[0], 60, ";pane p plain oo,oo"));
            D.fine(g, "hail " + d[0] + " seed " + d[1], g.hails(d[1], 1), d[2]);
            D.fine(g, "what is left", g.left(d[1], 1), 1 - d[2]);
        }
    }

    private static void thatOneBreaks() {
        D.says("III", "a DRAW mod panes: that one breaks, if it isn't thick");
        int[] struck = {0, 0, 1, 0, 1, 4, 2, 0};
        StringBuilder panes = new StringBuilder();
        StringBuilder thick = new StringBuilder();
        for (int many = 1; many <= 8; many++) {
            panes.append(";pane p").append((char) ('a' + many)).append(" plain oo,oo");
            thick.append(";pane p").append((char) ('a' + many)).append(" thick oo,oo");
            int all = (1 << many) - 1;
            GlassPost g = Due.of(weather(37, 60, panes.toString()));
            D.fine(g, "65,536 mod " + many, g.left(65536, 1), all & ~(1 << struck[many - 1]));
            D.fine(g, "it is broken but once", g.left(65536, 99), all & ~(1 << struck[many - 1]));
            GlassPost t = Due.of(weather(37, 60, thick.toString()));
            D.fine(t, "thick ones", t.left(65536, 99), all);
            D.fine(t, "though it hails", t.hails(65536, 99), 99);
            GlassPost i = Due.of(weather(37, 60, panes.toString().replace("plain", "ice")));
            D.fine(i, "those of ice", i.left(65536, 1), all & ~(1 << struck[many - 1]));
        }
    }

    /** By seed 1 it hails each day of twelve, on panes 1 4 3 1 5 4 0 0 2 5 1 3 of eight. */
    private static void seedBecomes() {
        D.says("III", "(SEED becomes (75 times SEED and 74) mod 65,537).");
        GlassPost g = Due.of("city wide 2 high 2 hail 99 ice 60;pane a plain oo,oo;pane b plain oo,oo;pane c plain oo,oo;pane d plain oo,oo"
                + ";pane e plain oo,oo;pane f plain oo,oo;pane h plain oo,oo;pane i plain oo,oo");
        int[] struck = {1, 4, 3, 1, 5, 4, 0, 0, 2, 5, 1, 3};
        int left = 255;
        for (int n = 0; n <= 12; n++) {
            D.fine(g, "left(1, " + n + ")", g.left(1, n), left);
            D.fine(g, "hails(1, " + n + ")", g.hails(1, n), n);
            left &= n < 12 ? ~(1 << struck[n]) : left;
        }
        GlassPost some = Due.of("city wide 2 high 2 hail 50 ice 60" + THREE.replace("ice", "plain"));
        int[] behind = {7, 7, 3, 3, 3, 3, 2};
        int[] hails = {0, 0, 1, 1, 2, 3, 4};
        for (int n = 0; n <= 6; n++) {
            D.fine(some, "left(0, " + n + ")", some.left(0, n), behind[n]);
            D.fine(some, "hails(0, " + n + ")", some.hails(0, n), hails[n]);
        }
    }

    private static void fromNowOn() {
        D.says("III", "From NOW on; melted, broken ones are gone.");
        GlassPost g = Due.of(weather(0, 2, THREE));
        D.fine(g, "all", g.left(0, 0), 7);
        g.breaks(0);
        D.fine(g, "a broken one is gone", g.left(0, 0), 6);
        D.fine(g, "the day is still the first", g.left(0, 1), 6);
        D.fine(g, "the ice melts on the second", g.left(0, 2), 2);
        D.fine(g, "nothing has melted in fact", g.left(0, 1), 6);
        D.fine(g, "nor broken", g.pane(2, 3), 0);
        g.breaks(2);
        D.fine(g, "broken ice", g.left(0, 0), 2);
        g.undo();
        g.undo();
        D.fine(g, "all again", g.left(0, 0), 7);
    }

    private static void left() {
        D.says(41, "Panes that are left behind n DAYS (0 .. 99) by a SEED (0 .. 65,536), as bits.");
        GlassPost g = Due.of(Full.CITY);
        for (int seed : new int[] {0, 1, 65535, 65536}) {
            for (int n : new int[] {0, 1, 98, 99}) {
                int answer = g.left(seed, n);
                D.due("trouble() behind left(" + seed + ", " + n + ")", g.trouble(), 0);
                D.due("thick ones are left", answer & (2 | 64), 2 | 64);
                D.due("ice isn't behind the second day", n >= 2 && (answer & (4 | 128)) != 0, false);
            }
            D.fine(g, "no day", g.left(seed, 0), 255);
        }
        GlassPost calm = Due.of(weather(36, 60, THREE));
        D.fine(calm, "99 days", calm.left(65536, 99), 3);
        D.fine(calm, "59 days", calm.left(65536, 59), 7);
    }

    private static void leftRefused() {
        D.says(41, "NONE: 1 (no CITY); 2.");
        GlassPost none = new GlassPost();
        D.refused(none, "no city", none.left(0, 0), 1);
        D.refused(none, "no city, and no number", none.left(-1, 0), 1);
        D.refused(none, "no city, and no number", none.left(0, 100), 1);
        GlassPost g = Due.of(Full.CITY);
        for (int seed : new int[] {-1, 65537, 65538, Due.LEAST, Due.LEAST + 1, Due.MOST, -65536}) {
            D.refused(g, "left(" + seed + ", 0)", g.left(seed, 0), 2);
            D.refused(g, "left(" + seed + ", 99)", g.left(seed, 99), 2);
            D.refused(g, "hails(" + seed + ", 99)", g.hails(seed, 99), 2);
        }
        for (int n : new int[] {-1, 100, 101, Due.LEAST, Due.LEAST + 1, Due.MOST, -99}) {
            D.refused(g, "left(0, " + n + ")", g.left(0, n), 2);
            D.refused(g, "left(65536, " + n + ")", g.left(65536, n), 2);
            D.refused(g, "left(-1, " + n + ")", g.left(-1, n), 2);
        }
    }

    private static void hails() {
        D.says(42, "How often it hails in them.");
        GlassPost g = Due.of(weather(37, 60, THREE));
        for (int n : new int[] {0, 1, 2, 98, 99}) {
            D.fine(g, "hails(65536, " + n + ")", g.hails(65536, n), n);
        }
        GlassPost calm = Due.of(weather(0, 60, THREE));
        D.fine(calm, "never", calm.hails(0, 99), 0);
        g.breaks(0);
        g.breaks(2);
        D.fine(g, "with what is broken, too", g.hails(65536, 99), 99);
    }

    private static void hailsRefused() {
        D.says(42, "NONE: likewise.");
        GlassPost none = new GlassPost();
        D.refused(none, "no city", none.hails(0, 0), 1);
        D.refused(none, "no city, and no number", none.hails(65537, 100), 1);
        GlassPost g = Due.of(Full.CITY);
        for (int n : new int[] {-1, 100, 101, Due.LEAST, Due.MOST}) {
            D.refused(g, "hails(0, " + n + ")", g.hails(0, n), 2);
        }
        for (int seed : new int[] {-1, 65537, Due.LEAST, Due.MOST}) {
            D.refused(g, "hails(" + seed + ", 0)", g.hails(seed, 0), 2);
        }
        D.told(g, "the greatest of both", g.hails(65536, 99) >= 0, true, 0);
    }
}
