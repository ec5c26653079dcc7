/** Promises 15 to 20: soonest, soonestAt, secret, secretAt, safest, safestAt. */
public final class WaysTest {
    private static final Due D = new Due("WaysTest");
    private static final int LEAST = Integer.MIN_VALUE;
    private static final int MOST = Integer.MAX_VALUE;

    private static final String PANES = Due.HEAD
            + ";pane p plain xo,oo;pane q thick xo,oo;pane r ice xx,oo"
            + ";word w xo,oo;view day oo,oo;view dusk ox,oo;view night xx,xx";

    public static void main(String[] args) {
        soonest();
        soonestTies();
        secret();
        safest();
        thickGoesTheFirstWay();
        safestOfSixStreets();
        refusals();
        D.end();
    }

    private static String corners(String views) {
        StringBuilder text = new StringBuilder(PANES);
        for (int i = 0; i < views.length(); i++) {
            char v = views.charAt(i);
            text.append(";corner c").append((char) ('a' + i)).append(v == 'd' ? " day" : v == 'u' ? " dusk" : " night");
        }
        return text.toString();
    }

    private static String street(int from, int to, int minutes, int breaks) {
        return ";street c" + (char) ('a' + from) + " c" + (char) ('a' + to) + " " + minutes + " breaks " + breaks;
    }

    private static String soonestWay(GlassPost g, int from, int to) {
        StringBuilder way = new StringBuilder();
        for (int i = 0; g.soonestAt(from, to, i) != -1; i++) {
            way.append(g.soonestAt(from, to, i));
        }
        return way.toString();
    }

    private static String secretWay(GlassPost g, int p, int from, int to) {
        StringBuilder way = new StringBuilder();
        for (int i = 0; g.secretAt(p, from, to, i) != -1; i++) {
            way.append(g.secretAt(p, from, to, i));
        }
        return way.toString();
    }

    private static String safestWay(GlassPost g, int p, int from, int to) {
        StringBuilder way = new StringBuilder();
        for (int i = 0; g.safestAt(p, from, to, i) != -1; i++) {
            way.append(g.safestAt(p, from, to, i));
        }
        return way.toString();
    }

    private static void way(String call, String got, String want) {
        D.due(call + " goes " + got + ", due is " + want, got.equals(want), true);
    }

    private static void soonest() {
        GlassPost g = Due.of(corners("ddddd") + street(0, 1, 99, 0) + street(1, 2, 99, 0) + street(0, 3, 70, 0)
                + street(3, 2, 70, 0) + street(3, 1, 20, 0));
        D.fine(g, "soonest(0, 2)", g.soonest(0, 2), 140);
        way("soonest(0, 2)", soonestWay(g, 0, 2), "032");
        D.fine(g, "soonest(0, 1)", g.soonest(0, 1), 90);
        way("soonest(0, 1)", soonestWay(g, 0, 1), "031");
        D.fine(g, "soonest(2, 0)", g.soonest(2, 0), 140);
        way("soonest(2, 0)", soonestWay(g, 2, 0), "230");
        D.fine(g, "soonest(1, 2)", g.soonest(1, 2), 90);
        way("soonest(1, 2)", soonestWay(g, 1, 2), "132");
        D.fine(g, "it is there", g.soonest(4, 4), 0);
        way("soonest(4, 4)", soonestWay(g, 4, 4), "4");
        D.fine(g, "no way", g.soonest(0, 4), -2);
        D.refused(g, "no corner of no way", g.soonestAt(0, 4, 0), 1);
        D.fine(g, "soonestAt(0, 2, 2)", g.soonestAt(0, 2, 2), 2);
        for (int i : new int[] {-1, 3, 7, LEAST, MOST}) {
            D.refused(g, "soonestAt(0, 2, " + i + ")", g.soonestAt(0, 2, i), 1);
        }
        for (int c : new int[] {-1, -2, 5, 7, LEAST, MOST}) {
            D.refused(g, "soonest(0, " + c + ")", g.soonest(0, c), 1);
            D.refused(g, "soonest(" + c + ", 0)", g.soonest(c, 0), 1);
            D.refused(g, "soonest(" + c + ", " + c + ")", g.soonest(c, c), 1);
            D.refused(g, "soonestAt(0, " + c + ", 0)", g.soonestAt(0, c, 0), 1);
            D.refused(g, "soonestAt(" + c + ", 0, 0)", g.soonestAt(c, 0, 0), 1);
        }
    }

    /** The first by the corners' numbers, be it of more corners. */
    private static void soonestTies() {
        GlassPost g = Due.of(corners("ddddd") + street(0, 4, 9, 0) + street(0, 3, 3, 0) + street(3, 4, 6, 0)
                + street(0, 2, 2, 0) + street(2, 3, 1, 0) + street(0, 1, 5, 0) + street(1, 4, 5, 0));
        D.fine(g, "soonest(0, 4)", g.soonest(0, 4), 9);
        way("soonest(0, 4)", soonestWay(g, 0, 4), "0234");
        way("soonest(4, 0)", soonestWay(g, 4, 0), "40");
        way("soonest(0, 3)", soonestWay(g, 0, 3), "023");
        way("soonest(3, 0)", soonestWay(g, 3, 0), "30");
    }

    private static void secret() {
        GlassPost g = Due.of(corners("duddn") + street(0, 1, 1, 0) + street(1, 3, 1, 0) + street(0, 2, 5, 0)
                + street(2, 3, 5, 0) + street(0, 4, 9, 0) + street(4, 3, 9, 0) + ";thief cb;thief cc;thief ce");
        D.fine(g, "r is read by dusk alone", g.secret(2, 0, 3), 10);
        way("secret(2, 0, 3)", secretWay(g, 2, 0, 3), "023");
        D.fine(g, "p is read by day and dusk", g.secret(0, 0, 3), 18);
        way("secret(0, 0, 3)", secretWay(g, 0, 0, 3), "043");
        D.fine(g, "a thick one is read likewise", g.secret(1, 0, 3), 18);
        D.fine(g, "soonest does not mind", g.soonest(0, 3), 2);
        D.fine(g, "a thief at the end", g.secret(0, 0, 1), -2);
        D.refused(g, "no corner of no way", g.secretAt(0, 0, 1, 0), 1);
        D.fine(g, "a thief at the beginning", g.secret(0, 2, 3), -2);
        D.fine(g, "a thief where it is", g.secret(0, 1, 1), -2);
        D.fine(g, "a thief where it is, who can't read it", g.secret(0, 4, 4), 0);
        way("secret(0, 4, 4)", secretWay(g, 0, 4, 4), "4");
        g.cover(0, 0);
        D.fine(g, "puttied it is read nowhere", g.secret(0, 0, 3), 2);
        way("secret behind putty", secretWay(g, 0, 0, 3), "013");
        g.undo();
        g.scratch(0, 3);
        D.fine(g, "scratched it is read nowhere", g.secret(0, 0, 3), 2);
        for (int i : new int[] {-1, 3, 7, LEAST, MOST}) {
            D.refused(g, "secretAt(0, 0, 3, " + i + ")", g.secretAt(0, 0, 3, i), 1);
        }
        GlassPost tie = Due.of(corners("dddd") + street(0, 2, 5, 0) + street(2, 3, 5, 0) + street(0, 1, 5, 0)
                + street(1, 3, 5, 0));
        way("the first of like ones", secretWay(tie, 0, 0, 3), "013");
    }

    private static void chance(GlassPost g, int p, int from, int to, long upper, long lower) {
        String call = "safest(" + p + ", " + from + ", " + to + ")";
        D.fine(g, call, g.safest(p, from, to, false), upper);
        D.fine(g, call + " lower", g.safest(p, from, to, true), lower);
    }

    private static void safest() {
        GlassPost g = Due.of(corners("ddddd") + street(0, 1, 1, 50) + street(0, 2, 99, 20) + street(2, 1, 99, 30)
                + street(1, 3, 5, 0) + street(0, 3, 5, 44));
        chance(g, 0, 0, 1, 14, 25);
        way("safest(0, 0, 1): of like ones the first", safestWay(g, 0, 0, 1), "021");
        chance(g, 0, 1, 0, 14, 25);
        way("safest(0, 1, 0)", safestWay(g, 0, 1, 0), "120");
        chance(g, 0, 0, 3, 14, 25);
        way("safest(0, 0, 3)", safestWay(g, 0, 0, 3), "0213");
        chance(g, 0, 3, 0, 14, 25);
        way("safest(0, 3, 0)", safestWay(g, 0, 3, 0), "30");
        chance(g, 2, 0, 2, 4, 5);
        chance(g, 0, 1, 3, 1, 1);
        chance(g, 0, 4, 4, 1, 1);
        way("safest(0, 4, 4)", safestWay(g, 0, 4, 4), "4");
        D.refused(g, "there is none", g.safest(0, 0, 4, false), 6);
        D.refused(g, "there is none", g.safest(0, 0, 4, true), 6);
        D.refused(g, "no corner of none", g.safestAt(0, 0, 4, 0), 6);
        D.refused(g, "no corner -1 of none", g.safestAt(0, 0, 4, -1), 6);
        D.fine(g, "safestAt(0, 0, 3, 3)", g.safestAt(0, 0, 3, 3), 3);
        for (int i : new int[] {-1, 4, 7, LEAST, MOST}) {
            D.refused(g, "safestAt(0, 0, 3, " + i + ")", g.safestAt(0, 0, 3, i), 1);
        }
    }

    /** Each way is as sure for a thick one, so the first by numbers it is, not the shortest. */
    private static void thickGoesTheFirstWay() {
        GlassPost g = Due.of(corners("dddd") + street(0, 3, 1, 0) + street(0, 1, 9, 50) + street(1, 2, 9, 50)
                + street(2, 3, 9, 50) + street(1, 3, 9, 50));
        chance(g, 1, 0, 3, 1, 1);
        way("safest of a thick one", safestWay(g, 1, 0, 3), "0123");
        chance(g, 0, 0, 3, 1, 1);
        way("safest of a plain one", safestWay(g, 0, 0, 3), "03");
    }

    private static void safestOfSixStreets() {
        StringBuilder text = new StringBuilder(corners("ddddddd"));
        for (int i = 0; i < 6; i++) {
            text.append(street(i, i + 1, 99, 49));
        }
        GlassPost g = Due.of(text.toString());
        chance(g, 0, 0, 6, 51L * 51 * 51 * 51 * 51 * 51, 1000000000000L);
        way("six streets", safestWay(g, 0, 0, 6), "0123456");
        D.fine(g, "six times 99", g.soonest(0, 6), 594);
        chance(g, 0, 6, 1, 51L * 51 * 51 * 51 * 51, 10000000000L);
        GlassPost half = Due.of(text.toString().replace("49", "50"));
        chance(half, 0, 0, 6, 1, 64);
    }

    private static void refusals() {
        GlassPost g = Due.of(corners("ddd") + street(0, 1, 1, 1));
        for (int bad : new int[] {-1, -2, 3, 8, LEAST, MOST}) {
            D.refused(g, "secret p " + bad, g.secret(bad, 0, 1), 1);
            D.refused(g, "secret from " + bad, g.secret(0, bad, 1), 1);
            D.refused(g, "secret to " + bad, g.secret(0, 0, bad), 1);
            D.refused(g, "secretAt p " + bad, g.secretAt(bad, 0, 1, 0), 1);
            D.refused(g, "secretAt from " + bad, g.secretAt(0, bad, 1, 0), 1);
            D.refused(g, "secretAt to " + bad, g.secretAt(0, 0, bad, 0), 1);
            D.refused(g, "safest p " + bad, g.safest(bad, 0, 1, true), 1);
            D.refused(g, "safest from " + bad, g.safest(0, bad, 1, true), 1);
            D.refused(g, "safest to " + bad, g.safest(0, 0, bad, false), 1);
            D.refused(g, "safestAt p " + bad, g.safestAt(bad, 0, 1, 0), 1);
            D.refused(g, "safestAt from " + bad, g.safestAt(0, bad, 1, 0), 1);
            D.refused(g, "safestAt to " + bad, g.safestAt(0, 0, bad, 0), 1);
        }
        g.breaks(0);
        D.refused(g, "secret of a broken one", g.secret(0, 0, 1), 5);
        D.refused(g, "secretAt of a broken one", g.secretAt(0, 0, 1, 0), 5);
        D.refused(g, "safest of a broken one", g.safest(0, 0, 1, false), 5);
        D.refused(g, "safest of a broken one, no way", g.safest(0, 0, 2, false), 5);
        D.refused(g, "safestAt of a broken one", g.safestAt(0, 0, 1, 0), 5);
        D.refused(g, "a broken one, no corner", g.secret(0, 0, 3), 1);
        D.refused(g, "a broken one, no corner", g.safest(0, 3, 0, true), 1);
        D.fine(g, "soonest goes on", g.soonest(0, 1), 1);
    }
}
