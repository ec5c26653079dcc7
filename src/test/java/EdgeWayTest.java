/** The edges of promises 15 to 24, sentence by sentence, with those of term II that are about ways and the plan. */
public final class EdgeWayTest {
    private static final Due D = new Due("EdgeWayTest");
    private static final int[] FAR = {-1, -2, -3, 7, 8, 9, 31, 32, 33, 1 << 20, Due.LEAST, Due.LEAST + 1, Due.MOST, Due.MOST - 1};
    private static final String GLASS = Due.HEAD + ";pane p plain xo,oo;pane q thick xo,oo;pane r ice xx,oo;pane s plain oo,oo"
            + ";word w xo,oo;view day oo,oo;view dusk ox,oo;view night xx,xx";

    public static void main(String[] args) {
        noneTwice();
        minutesTogether();
        fewest();
        endsToo();
        whoseView();
        greatestChance();
        thickNever();
        firstByNumbers();
        planGoesSoonest();
        readersOnIt();
        wordsThere();
        soonest();
        soonestRefused();
        soonestAt();
        secret();
        secretRefused();
        secretAt();
        safest();
        safestRefused();
        safestAt();
        sent();
        readers();
        overheard();
        unread();
        unreadOfNothing();
        D.end();
    }

    private static String corners(String views) {
        StringBuilder text = new StringBuilder(GLASS);
        for (int i = 0; i < views.length(); i++) {
            char v = views.charAt(i);
            text.append(";corner c").append((char) ('a' + i)).append(v == 'd' ? " day" : v == 'u' ? " dusk" : " night");
        }
        return text.toString();
    }

    private static String street(int from, int to, int minutes, int breaks) {
        return ";street c" + (char) ('a' + from) + " c" + (char) ('a' + to) + " " + minutes + " breaks " + breaks;
    }

    private static String line(int minutes, int breaks) {
        StringBuilder text = new StringBuilder(corners("ddddddd"));
        for (int i = 0; i < 6; i++) {
            text.append(street(i, i + 1, minutes, breaks));
        }
        return text.toString();
    }

    private interface At {
        int corner(int i);
    }

    /** Each corner of a way, and that there is none ahead of it and none behind. */
    private static void way(GlassPost g, String call, At at, String due) {
        for (int i = 0; i < due.length(); i++) {
            D.fine(g, call + " corner " + i, at.corner(i), due.charAt(i) - '0');
        }
        D.refused(g, call + " corner " + due.length(), at.corner(due.length()), 1);
        D.refused(g, call + " corner -1", at.corner(-1), 1);
    }

    private static void soonestWay(GlassPost g, int from, int to, String due) {
        way(g, "soonestAt(" + from + ", " + to + ")", i -> g.soonestAt(from, to, i), due);
    }

    private static void secretWay(GlassPost g, int p, int from, int to, String due) {
        way(g, "secretAt(" + p + ", " + from + ", " + to + ")", i -> g.secretAt(p, from, to, i), due);
    }

    private static void safestWay(GlassPost g, int p, int from, int to, String due) {
        way(g, "safestAt(" + p + ", " + from + ", " + to + ")", i -> g.safestAt(p, from, to, i), due);
    }

    private static void chance(GlassPost g, int p, int from, int to, long upper, long lower) {
        String call = "safest(" + p + ", " + from + ", " + to + ")";
        D.fine(g, call, g.safest(p, from, to, false), upper);
        D.fine(g, call + " lower", g.safest(p, from, to, true), lower);
    }

    private static void noneTwice() {
        D.says("II", "A WAY: corners along streets, none twice.");
        GlassPost line = Due.of(line(1, 0));
        soonestWay(line, 0, 6, "0123456");
        soonestWay(line, 6, 0, "6543210");
        soonestWay(line, 3, 3, "3");
        GlassPost ring = Due.of(corners("dddd") + street(0, 1, 1, 0) + street(1, 2, 1, 0) + street(2, 0, 1, 0) + street(2, 3, 1, 0));
        safestWay(ring, 1, 0, 3, "0123");
        safestWay(ring, 1, 2, 3, "23");
        safestWay(ring, 1, 0, 0, "0");
        D.fine(ring, "where it is, it goes no round", ring.soonest(2, 2), 0);
        GlassPost none = Due.of(corners("dd"));
        D.fine(none, "no street, no way", none.soonest(0, 1), -2);
    }

    private static void minutesTogether() {
        D.says("II", "MINUTES of it together.");
        GlassPost most = Due.of(line(99, 0));
        for (int to = 0; to < 7; to++) {
            D.fine(most, "soonest(0, " + to + ")", most.soonest(0, to), 99 * to);
            D.fine(most, "soonest(" + to + ", 0)", most.soonest(to, 0), 99 * to);
        }
        GlassPost least = Due.of(line(1, 50));
        D.fine(least, "six times 1", least.soonest(6, 0), 6);
    }

    private static void fewest() {
        D.says("II", "SOONEST: of fewest MINUTES;");
        GlassPost g = Due.of(corners("ddd") + street(0, 2, 11, 0) + street(0, 1, 5, 0) + street(1, 2, 5, 0));
        D.fine(g, "by one less", g.soonest(0, 2), 10);
        soonestWay(g, 0, 2, "012");
        GlassPost h = Due.of(corners("ddd") + street(0, 2, 9, 0) + street(0, 1, 5, 0) + street(1, 2, 5, 0));
        D.fine(h, "by one less", h.soonest(0, 2), 9);
        soonestWay(h, 0, 2, "02");
        GlassPost full = Due.of(Full.CITY);
        D.fine(full, "soonest(0, 6)", full.soonest(0, 6), 63);
        soonestWay(full, 0, 6, "013456");
    }

    private static void endsToo() {
        D.says("II", "SECRET (of a pane): of fewest MINUTES of those on which no thief's corner (ends, too) lies");
        String town = corners("ddd") + street(0, 1, 1, 0) + street(1, 2, 1, 0) + street(0, 2, 99, 0);
        GlassPost free = Due.of(town);
        D.fine(free, "no thief", free.secret(0, 0, 2), 2);
        secretWay(free, 0, 0, 2, "012");
        GlassPost between = Due.of(town + ";thief cb");
        D.fine(between, "a thief between", between.secret(0, 0, 2), 99);
        secretWay(between, 0, 0, 2, "02");
        GlassPost first = Due.of(town + ";thief ca");
        D.fine(first, "a thief at the first", first.secret(0, 0, 2), -2);
        D.fine(first, "past it", first.secret(0, 1, 2), 1);
        D.fine(first, "a thief where it stays", first.secret(0, 0, 0), -2);
        D.fine(first, "none where it stays", first.secret(0, 1, 1), 0);
        GlassPost last = Due.of(town + ";thief cc");
        D.fine(last, "a thief at the last", last.secret(0, 0, 2), -2);
        D.refused(last, "so there is no corner", last.secretAt(0, 0, 2, 0), 1);
        D.fine(last, "not so far", last.secret(0, 0, 1), 1);
    }

    private static void whoseView() {
        D.says("II", "against whose VIEW it is READ;");
        GlassPost g = Due.of(corners("dun") + street(0, 1, 1, 0) + street(1, 2, 1, 0) + ";thief ca;thief cb;thief cc");
        D.fine(g, "p is read by day", g.secret(0, 0, 0), -2);
        D.fine(g, "p is read by dusk", g.secret(0, 1, 1), -2);
        D.fine(g, "p isn't by night", g.secret(0, 2, 2), 0);
        D.fine(g, "r isn't by day", g.secret(2, 0, 0), 0);
        D.fine(g, "r is by dusk", g.secret(2, 1, 1), -2);
        D.fine(g, "s is never", g.secret(3, 0, 2), 2);
        g.scratch(3, 0);
        D.fine(g, "s is now", g.secret(3, 0, 0), -2);
        g.cover(3, 0);
        D.fine(g, "s isn't any more", g.secret(3, 0, 2), 2);
    }

    private static void greatestChance() {
        D.says("II", "SAFEST: of greatest CHANCE: that it doesn't break on any street, as a fraction");
        String town = corners("ddd") + street(0, 1, 99, 10) + street(1, 2, 99, 10);
        GlassPost g = Due.of(town + street(0, 2, 1, 20));
        chance(g, 0, 0, 2, 81, 100);
        safestWay(g, 0, 0, 2, "012");
        GlassPost h = Due.of(town + street(0, 2, 1, 18));
        chance(h, 0, 0, 2, 41, 50);
        safestWay(h, 0, 0, 2, "02");
        GlassPost six = Due.of(line(1, 50));
        chance(six, 0, 0, 6, 1, 64);
        GlassPost most = Due.of(line(1, 1));
        chance(most, 2, 6, 0, 941480149401L, 1000000000000L);
    }

    private static void thickNever() {
        D.says("II", "(a thick one never does);");
        GlassPost g = Due.of(line(1, 50) + street(0, 6, 99, 0));
        chance(g, 1, 0, 6, 1, 1);
        safestWay(g, 1, 0, 6, "0123456");
        chance(g, 0, 0, 6, 1, 1);
        safestWay(g, 0, 0, 6, "06");
        GlassPost h = Due.of(line(1, 50));
        chance(h, 0, 0, 1, 1, 2);
        chance(h, 2, 0, 1, 1, 2);
        chance(h, 1, 0, 1, 1, 1);
    }

    private static void firstByNumbers() {
        D.says("II", "of like ones each the first by corners' numbers.");
        GlassPost g = Due.of(corners("ddddd") + street(0, 4, 4, 0) + street(0, 3, 2, 0) + street(3, 4, 2, 0)
                + street(0, 2, 1, 0) + street(2, 3, 1, 0));
        soonestWay(g, 0, 4, "0234");
        soonestWay(g, 4, 0, "40");
        soonestWay(g, 3, 0, "30");
        secretWay(g, 0, 0, 4, "0234");
        safestWay(g, 0, 0, 4, "0234");
        safestWay(g, 1, 4, 0, "40");
        GlassPost full = Due.of(Full.CITY);
        D.fine(full, "3 minutes by two ways", full.soonest(0, 2), 3);
        soonestWay(full, 0, 2, "012");
        soonestWay(full, 2, 0, "20");
        safestWay(full, 1, 0, 6, "0123456");
        chance(full, 0, 0, 6, 3, 5);
        safestWay(full, 0, 0, 6, "0246");
    }

    private static void planGoesSoonest() {
        D.says("II", "THE PLAN: each letter sent goes the SOONEST WAY with its pane (if there is one).");
        GlassPost g = Due.of(corners("ndndd") + street(0, 1, 5, 0) + street(1, 2, 5, 0) + street(0, 3, 4, 50) + street(3, 2, 4, 50)
                + ";thief cb;thief cd;sent p ca cc;sent p cb cb;sent p ca ce");
        D.fine(g, "minutes of the first", g.sent(0, 3), 8);
        D.fine(g, "the soonest is neither the safest nor the secret one", g.readers(0), 8);
        D.fine(g, "it stays where it is", g.sent(1, 3), 0);
        D.fine(g, "and is read there", g.readers(1), 2);
        D.fine(g, "there is no way", g.sent(2, 3), -2);
        D.fine(g, "so nobody reads it", g.readers(2), 0);
    }

    private static void readersOnIt() {
        D.says("II", "READERS: thieves' corners on it at which the pane is READ.");
        GlassPost g = Due.of(line(1, 0) + ";thief cg;thief ca;thief cd;sent p ca cg;sent p cb cf;sent r ca cg;sent p ce cf");
        D.fine(g, "both ends and between", g.readers(0), 1 | 8 | 64);
        D.fine(g, "between alone", g.readers(1), 8);
        D.fine(g, "not read", g.readers(2), 0);
        D.fine(g, "no thief there", g.readers(3), 0);
    }

    private static void wordsThere() {
        D.says("II", "OVERHEARD: words READ there.");
        GlassPost g = Due.of(Full.CITY);
        D.fine(g, "readers of pane 0 on 0 1 3 4 5 6", g.readers(0), 1 | 8 | 16 | 64);
        D.fine(g, "one word, read often", g.overheard(0), 1);
        D.fine(g, "readers of pane 6 on 6 5 3 1 0", g.readers(3), 1 | 2 | 64);
        D.fine(g, "two words, the last among them", g.overheard(3), 64 | 128);
        D.fine(g, "nothing to be read", g.overheard(1), 0);
    }

    private static void soonest() {
        D.says(15, "MINUTES of the SOONEST WAY (0: it is there); -2 none.");
        GlassPost g = Due.of(line(99, 0).replace(street(5, 6, 99, 0), ""));
        D.fine(g, "it is at the first", g.soonest(0, 0), 0);
        D.fine(g, "it is at the last", g.soonest(6, 6), 0);
        D.fine(g, "five streets", g.soonest(0, 5), 495);
        D.fine(g, "no way to it", g.soonest(0, 6), -2);
        D.fine(g, "no way from it", g.soonest(6, 0), -2);
        D.fine(g, "no way from the next", g.soonest(5, 6), -2);
        g.breaks(0);
        D.fine(g, "panes do not matter", g.soonest(0, 5), 495);
    }

    private static void soonestRefused() {
        D.says(15, "NONE: 1.");
        GlassPost g = Due.of(Full.CITY);
        for (int far : FAR) {
            D.refused(g, "soonest(0, " + far + ")", g.soonest(0, far), 1);
            D.refused(g, "soonest(" + far + ", 0)", g.soonest(far, 0), 1);
            D.refused(g, "soonest of two " + far, g.soonest(far, far), 1);
        }
        GlassPost bare = Due.of(Due.SMALL);
        D.refused(bare, "no corner 0", bare.soonest(0, 0), 1);
        GlassPost one = Due.of(corners("d"));
        D.fine(one, "one corner", one.soonest(0, 0), 0);
        D.refused(one, "no second corner", one.soonest(0, 1), 1);
    }

    private static void soonestAt() {
        D.says(16, "Its i-th corner.");
        GlassPost g = Due.of(line(1, 0).replace(street(5, 6, 1, 0), ""));
        soonestWay(g, 0, 5, "012345");
        soonestWay(g, 6, 6, "6");
        D.says(16, "NONE: 1.");
        D.refused(g, "no way", g.soonestAt(0, 6, 0), 1);
        D.refused(g, "no way, -1", g.soonestAt(0, 6, -1), 1);
        for (int far : FAR) {
            D.refused(g, "soonestAt(0, 5, " + far + ")", g.soonestAt(0, 5, far), 1);
            D.refused(g, "soonestAt(0, " + far + ", 0)", g.soonestAt(0, far, 0), 1);
            D.refused(g, "soonestAt(" + far + ", 0, 0)", g.soonestAt(far, 0, 0), 1);
        }
        D.refused(g, "soonestAt(0, 5, 6)", g.soonestAt(0, 5, 6), 1);
        D.refused(g, "soonestAt(0, 0, 1)", g.soonestAt(0, 0, 1), 1);
        GlassPost bare = Due.of(Due.SMALL);
        D.refused(bare, "no corner 0", bare.soonestAt(0, 0, 0), 1);
    }

    private static void secret() {
        D.says(17, "MINUTES of the SECRET one; -2 none.");
        GlassPost g = Due.of(Full.CITY);
        D.fine(g, "pane 7 is read nowhere", g.secret(7, 0, 6), 63);
        D.fine(g, "pane 0 is read at 0", g.secret(0, 0, 0), -2);
        D.fine(g, "pane 0 isn't read at 1", g.secret(0, 1, 1), 0);
        D.fine(g, "pane 0 isn't read at 5", g.secret(0, 5, 5), 0);
        D.fine(g, "but between", g.secret(0, 1, 5), -2);
        D.fine(g, "pane 1 isn't read at 2", g.secret(1, 2, 2), 0);
        D.fine(g, "the last pane to the last corner", g.secret(7, 6, 6), 0);
    }

    private static void secretRefused() {
        D.says(17, "NONE: 1; 5 (broken).");
        GlassPost g = Due.of(Full.CITY);
        for (int far : FAR) {
            if (far != 7) {
                D.refused(g, "secret(" + far + ", 0, 1)", g.secret(far, 0, 1), 1);
            }
            D.refused(g, "secret(7, " + far + ", 1)", g.secret(7, far, 1), 1);
            D.refused(g, "secret(7, 0, " + far + ")", g.secret(7, 0, far), 1);
        }
        g.breaks(7);
        D.refused(g, "broken", g.secret(7, 0, 6), 5);
        D.refused(g, "broken, where it is", g.secret(7, 0, 0), 5);
        D.refused(g, "broken, and no corner", g.secret(7, 7, 0), 1);
        D.refused(g, "broken, and no corner", g.secret(7, 0, -1), 1);
        GlassPost apart = Due.of(corners("dd"));
        D.fine(apart, "no way", apart.secret(0, 0, 1), -2);
        apart.breaks(0);
        D.refused(apart, "no way, and broken", apart.secret(0, 0, 1), 5);
    }

    private static void secretAt() {
        D.says(18, "Its i-th corner.");
        GlassPost g = Due.of(Full.CITY);
        secretWay(g, 7, 0, 6, "013456");
        secretWay(g, 0, 1, 1, "1");
        D.says(18, "NONE: likewise.");
        D.refused(g, "none at all", g.secretAt(0, 0, 0, 0), 1);
        for (int far : FAR) {
            D.refused(g, "secretAt(7, 0, 6, " + far + ")", g.secretAt(7, 0, 6, far), 1);
            D.refused(g, "secretAt(7, 0, " + far + ", 0)", g.secretAt(7, 0, far, 0), 1);
            D.refused(g, "secretAt(7, " + far + ", 0, 0)", g.secretAt(7, far, 0, 0), 1);
            if (far != 7) {
                D.refused(g, "secretAt(" + far + ", 0, 0, 0)", g.secretAt(far, 0, 0, 0), 1);
            }
        }
        g.breaks(7);
        D.refused(g, "broken", g.secretAt(7, 0, 6, 0), 5);
        D.refused(g, "broken, and no corner", g.secretAt(7, 7, 6, 0), 1);
    }

    private static void safest() {
        D.says(19, "CHANCE of the SAFEST, the upper WHOLE or the lower, in lowest terms (0 by 1).");
        GlassPost g = Due.of(line(1, 50).replace(street(0, 1, 1, 50), street(0, 1, 1, 0)).replace(street(1, 2, 1, 50), street(1, 2, 1, 1)));
        chance(g, 0, 0, 0, 1, 1);
        chance(g, 0, 0, 1, 1, 1);
        chance(g, 0, 1, 2, 99, 100);
        chance(g, 0, 2, 3, 1, 2);
        chance(g, 0, 0, 6, 99, 1600);
        chance(g, 2, 6, 0, 99, 1600);
        chance(g, 1, 6, 0, 1, 1);
        GlassPost terms = Due.of(line(1, 36));
        chance(terms, 0, 0, 1, 16, 25);
        chance(terms, 0, 0, 6, 1L << 24, 244140625L);
        GlassPost greatest = Due.of(line(1, 49));
        chance(greatest, 0, 0, 6, 17596287801L, 1000000000000L);
    }

    private static void safestRefused() {
        D.says(19, "-1: 1; 5 (broken); 6 (there is none).");
        GlassPost g = Due.of(corners("ddddddd") + street(0, 1, 1, 0));
        for (boolean lower : new boolean[] {false, true}) {
            for (int far : FAR) {
                D.refused(g, "safest(" + far + ", 0, 1)", g.safest(far, 0, 1, lower), 1);
                D.refused(g, "safest(0, " + far + ", 1)", g.safest(0, far, 1, lower), 1);
                D.refused(g, "safest(0, 0, " + far + ")", g.safest(0, 0, far, lower), 1);
            }
            D.refused(g, "there is none", g.safest(0, 0, 6, lower), 6);
            D.refused(g, "nor for a thick one", g.safest(1, 6, 0, lower), 6);
        }
        g.breaks(0);
        D.refused(g, "broken", g.safest(0, 0, 1, true), 5);
        D.refused(g, "broken, and there is none", g.safest(0, 0, 6, true), 5);
        D.refused(g, "broken, and no corner", g.safest(0, 0, 7, false), 1);
        D.refused(g, "broken, where it is", g.safest(0, 3, 3, false), 5);
        D.fine(g, "another one", g.safest(2, 3, 3, false), 1);
        GlassPost bare = Due.of(Due.SMALL);
        D.refused(bare, "no corner 0", bare.safest(0, 0, 0, true), 1);
    }

    private static void safestAt() {
        D.says(20, "Its i-th corner.");
        GlassPost g = Due.of(line(1, 1).replace(street(5, 6, 1, 1), ""));
        safestWay(g, 0, 0, 5, "012345");
        safestWay(g, 1, 5, 0, "543210");
        safestWay(g, 0, 6, 6, "6");
        D.says(20, "NONE: likewise; 1 (i).");
        for (int far : FAR) {
            D.refused(g, "safestAt(0, 0, 5, " + far + ")", g.safestAt(0, 0, 5, far), 1);
            D.refused(g, "safestAt(0, 0, " + far + ", 0)", g.safestAt(0, 0, far, 0), 1);
            D.refused(g, "safestAt(0, " + far + ", 0, 0)", g.safestAt(0, far, 0, 0), 1);
            D.refused(g, "safestAt(" + far + ", 0, 0, 0)", g.safestAt(far, 0, 0, 0), 1);
            D.refused(g, "no way, and " + far, g.safestAt(0, 0, 6, far), 6);
        }
        D.refused(g, "safestAt(0, 0, 5, 6)", g.safestAt(0, 0, 5, 6), 1);
        D.refused(g, "there is none", g.safestAt(0, 6, 0, 0), 6);
        g.breaks(0);
        D.refused(g, "broken", g.safestAt(0, 0, 5, 0), 5);
        D.refused(g, "broken, i is none", g.safestAt(0, 0, 5, 99), 5);
        D.refused(g, "broken, and no corner", g.safestAt(0, 0, 7, 0), 1);
    }

    private static void sent() {
        D.says(21, "Of a letter sent 0 its pane, 1 from, 2 to, 3 MINUTES (-2 there is no WAY).");
        GlassPost g = Due.of(Full.CITY);
        int[][] letters = {{0, 0, 6, 63}, {7, 0, 0, 0}, {4, 1, 4, 53}, {6, 6, 0, 63}, {1, 2, 2, 0}, {3, 5, 1, 57}};
        for (int l = 0; l < 6; l++) {
            for (int what = 0; what < 4; what++) {
                D.fine(g, "sent(" + l + ", " + what + ")", g.sent(l, what), letters[l][what]);
            }
        }
        g.breaks(0);
        D.fine(g, "minutes of a broken one", g.sent(0, 3), 63);
        GlassPost apart = Due.of(corners("dd") + ";sent s ca cb");
        D.fine(apart, "there is no way", apart.sent(0, 3), -2);
        D.fine(apart, "its pane", apart.sent(0, 0), 3);
        D.says(21, "NONE: 1.");
        for (int far : FAR) {
            D.refused(g, "sent(" + far + ", 0)", g.sent(far, 0), 1);
            D.refused(g, "sent(0, " + far + ")", g.sent(0, far), 1);
        }
        D.refused(g, "sent(6, 0)", g.sent(6, 0), 1);
        D.refused(g, "sent(5, 4)", g.sent(5, 4), 1);
        D.refused(apart, "sent(1, 0) of one", apart.sent(1, 0), 1);
    }

    private static void readers() {
        D.says(22, "READERS of a letter, as bits (0 without a WAY, or if it is broken).");
        GlassPost g = Due.of(line(1, 0).replace(street(5, 6, 1, 0), "") + ";thief ca;thief cb;thief cc;thief cd;thief ce;thief cf"
                + ";thief cg;sent p ca cf;sent p ca cg;sent p cg cg;sent q cg cg;sent s ca cf;sent p cb cb");
        D.fine(g, "six of them", g.readers(0), 63);
        D.fine(g, "without a way", g.readers(1), 0);
        D.fine(g, "at the last corner", g.readers(2), 64);
        D.fine(g, "a thick one", g.readers(3), 64);
        D.fine(g, "nothing is read of it", g.readers(4), 0);
        D.fine(g, "the last letter", g.readers(5), 2);
        g.breaks(0);
        D.fine(g, "it is broken", g.readers(0), 0);
        D.fine(g, "the thick one isn't", g.readers(3), 64);
        D.says(22, "NONE: 1.");
        for (int far : FAR) {
            D.refused(g, "readers(" + far + ")", g.readers(far), 1);
        }
        D.refused(g, "readers(6)", g.readers(6), 1);
        GlassPost bare = Due.of(Due.SMALL);
        D.refused(bare, "no letter 0", bare.readers(0), 1);
    }

    private static void overheard() {
        D.says(23, "OVERHEARD of a letter, as bits.");
        GlassPost g = Due.of(line(1, 0).replace(street(5, 6, 1, 0), "") + ";word n oo,oo"
                + ";thief ca;thief cg;sent p ca cf;sent p ca cg;sent p cg cg;sent s cg cg;sent r ca cb;sent s ca ca");
        D.fine(g, "one word", g.overheard(0), 1);
        D.fine(g, "without a way", g.overheard(1), 0);
        D.fine(g, "where it stays", g.overheard(2), 1);
        D.fine(g, "the word of nothing", g.overheard(3), 2);
        D.fine(g, "no word", g.overheard(4), 0);
        D.fine(g, "the last letter", g.overheard(5), 2);
        g.breaks(0);
        D.fine(g, "it is broken", g.overheard(0), 0);
        D.says(23, "NONE: 1.");
        for (int far : FAR) {
            D.refused(g, "overheard(" + far + ")", g.overheard(far), 1);
        }
        D.refused(g, "overheard(6)", g.overheard(6), 1);
        GlassPost bare = Due.of(Due.SMALL);
        D.refused(bare, "no letter 0", bare.overheard(0), 1);
    }

    private static void unread() {
        D.says(24, "Letters of which nobody reads anything, as bits.");
        GlassPost g = Due.of(Full.CITY);
        D.fine(g, "pane 7, and pane 1 at 2, and pane 3", g.unread(), 2 | 16 | 32);
        g.breaks(0);
        D.fine(g, "a broken one isn't read", g.unread(), 1 | 2 | 16 | 32);
        g.breaks(4);
        D.fine(g, "nor this one", g.unread(), 1 | 2 | 4 | 16 | 32);
        g.cover(6, 0);
        D.fine(g, "14 is a word", g.unread(), 1 | 2 | 4 | 16 | 32);
        g.cover(6, 1);
        g.cover(6, 2);
        D.fine(g, "8 is no word: all six", g.unread(), 63);
        g.scratch(7, 0);
        D.fine(g, "but 1 is", g.unread(), 61);
    }

    private static void unreadOfNothing() {
        D.says(24, "NONE: 1 (no CITY).");
        GlassPost none = new GlassPost();
        D.refused(none, "no city", none.unread(), 1);
        D.refused(none, "a text with a fault is none", Due.city(none, Due.SMALL + "#"), 4);
        D.refused(none, "still no city", none.unread(), 1);
        GlassPost bare = Due.of(Due.SMALL);
        D.fine(bare, "a city without letters", bare.unread(), 0);
        GlassPost apart = Due.of(corners("dd") + ";thief ca;sent p ca cb;sent p ca ca;sent p cb cb");
        D.fine(apart, "a letter without a way is unread", apart.unread(), 1 | 4);
    }
}
