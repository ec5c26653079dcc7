/** Every argument from below the least to above the greatest, in a full city and some others, against the model. */
public final class SweepTest {
    private static final Due D = new Due("SweepTest");

    public static void main(String[] args) {
        Compare full = new Compare(D, Full.CITY);
        full.run = "full ";
        sweep(full);
        made(full);
        acts(full);
        full.run = "full, much was done ";
        sweep(full);
        for (int seed = 1; seed <= 40; seed++) {
            Compare c = new Compare(D, small(seed));
            c.run = "city " + seed + " ";
            sweep(c);
            made(c);
            acts(c);
            c.run = "city " + seed + ", much was done ";
            sweep(c);
        }
        D.end();
    }

    private static String small(int seed) {
        CityMaker maker = new CityMaker(5000000L + seed);
        String text;
        do {
            text = maker.text(4);
        } while (text.length() > 1100);
        return text;
    }

    /** As many panes as there are are scratched and puttied, every third one is broken, one act more than is kept. */
    private static void acts(Compare c) {
        c.mark();
        int panes = c.m.panes.size();
        for (int i = -1; i <= panes; i++) {
            for (int cell = -1; cell <= c.m.cells; cell++) {
                if ((i + cell) % 3 == 0) {
                    c.scratch(i, cell);
                }
                if ((i + cell) % 5 == 0) {
                    c.cover(i, cell);
                }
            }
            if (i % 3 == 2) {
                c.breaks(i);
            }
        }
        c.mark();
        c.mark();
        c.mark();
        c.back(3);
        c.back(-1);
        c.undo();
        c.sizes();
        c.led();
    }

    private static void sweep(Compare c) {
        c.sizes();
        c.led();
        c.unread();
        c.games();
        int panes = c.m.panes.size();
        int words = c.m.words.size();
        int views = c.m.views.size();
        int corners = c.m.corners.size();
        for (int p = -2; p <= panes + 1; p++) {
            for (int q = -2; q <= panes + 1; q++) {
                c.pairs(p, q);
                c.pane(p, q);
            }
            for (int v = -3; v <= views + 1; v++) {
                c.panes(p, v);
                for (int w = -2; w <= words + 1; w++) {
                    c.words(p, w, v);
                }
            }
            for (int from = -1; from <= corners; from++) {
                for (int to = -1; to <= corners; to++) {
                    c.ways(p, from, to, (from + to + 4) % 8 - 1);
                }
            }
        }
        for (int i = -2; i <= 8; i++) {
            c.letter(i);
            c.shards(i);
        }
        for (int seed = -1; seed <= 65537; seed += 4369) {
            for (int n = -1; n <= 100; n++) {
                c.days(seed, n);
            }
        }
    }

    private static void made(Compare c) {
        int words = c.m.words.size();
        int views = c.m.views.size();
        for (int first = -1; first <= words; first++) {
            for (int second = -1; second <= words; second++) {
                for (int third = -1; third <= words; third++) {
                    for (int v = -3; v <= views; v++) {
                        c.made(new int[] {first, second, third}, v, (first + second + third + v + 9) % (views + 4) - 3);
                    }
                }
            }
        }
    }
}
