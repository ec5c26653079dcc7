import java.util.List;
import java.util.Random;

/** Random cities and random calls, each answer against that of the model. */
public final class ModelTest {
    private static final Due D = new Due("ModelTest");
    private static final int TEXTS = 8000;
    private static final int CITIES = 500;
    private static final int CALLS = 160;

    private static GlassPost g;
    private static CityModel m;
    private static Random random;
    private static String run;

    public static void main(String[] args) {
        texts();
        for (int seed = 1; seed <= CITIES; seed++) {
            city(seed);
        }
        D.end();
    }

    private static void texts() {
        int[] met = new int[8];
        for (int seed = 1; seed <= TEXTS; seed++) {
            CityMaker maker = new CityMaker(seed);
            String text = maker.text(20);
            String told = seed % 8 == 0 ? text : maker.spoilt(text);
            if (told.length() > 1100) {
                continue;
            }
            TextModel due = new TextModel(told);
            GlassPost x = new GlassPost();
            D.due("city of " + told, Due.city(x, told), due.fault == 0 ? due.many("pane") : -1);
            D.due("fault of " + told, x.fault(), due.fault);
            D.due("where of " + told, x.where(), due.where);
            met[due.fault]++;
        }
        for (int fault = 0; fault < 8; fault++) {
            D.due("fault " + fault + " is met often enough: " + met[fault], met[fault] > 100, true);
        }
    }

    private static void city(int seed) {
        String text;
        CityMaker maker = new CityMaker(1000000L + seed);
        do {
            text = maker.text(seed % 5 == 0 ? 10 : 6);
        } while (text.length() > 1100);
        g = new GlassPost();
        D.due("city", Due.city(g, text) > 0, true);
        m = new CityModel(new TextModel(text));
        random = new Random(seed);
        sizes(seed);
        for (int i = 0; i < CALLS; i++) {
            run = "city " + seed + " call " + i + " ";
            if (random.nextInt(6) == 0) {
                act();
            } else {
                ask();
            }
        }
    }

    private static void sizes(int seed) {
        int[] due = {m.wide, m.high, m.hail, m.ice, m.panes.size(), m.words.size(), m.views.size(), m.corners.size(),
            m.streets.size(), m.thieves.size(), m.letters.size(), m.people, m.shards.size(), 0, 0, 0};
        for (int what = 0; what < 16; what++) {
            D.due("city " + seed + " size(" + what + ")", g.size(what), due[what]);
        }
    }

    /** Now and then a number that is one too many or too few. */
    private static int some(int many) {
        return random.nextInt(12) == 0 ? (random.nextBoolean() ? -1 : many) : random.nextInt(Math.max(many, 1));
    }

    private static int someView() {
        return random.nextInt(3) == 0 ? -2 : some(m.views.size());
    }

    private static boolean isPane(int p) {
        return p >= 0 && p < m.panes.size();
    }

    private static boolean isWord(int w) {
        return w >= 0 && w < m.words.size();
    }

    private static boolean isView(int v) {
        return v == -2 || v >= 0 && v < m.views.size();
    }

    private static boolean isCorner(int c) {
        return c >= 0 && c < m.corners.size();
    }

    private static int why(int p, boolean others) {
        return !isPane(p) || !others ? 1 : m.panes.get(p).broken ? 5 : 0;
    }

    private static void due(String call, long got, int why, long want) {
        D.told(g, run + call, got, why == 0 ? want : -1, why);
    }

    private static void act() {
        int p = some(m.panes.size());
        int cell = some(m.cells);
        boolean isCell = cell >= 0 && cell < m.cells;
        int why;
        switch (random.nextInt(7)) {
            case 0:
            case 1:
                why = why(p, isCell);
                why = why == 0 && m.panes.get(p).stroke[cell] ? 5 : why;
                if (why == 0) {
                    m.keepForUndo();
                    m.panes.get(p).stroke[cell] = true;
                }
                D.told(g, run + "scratch", g.scratch(p, cell), why == 0, why);
                break;
            case 2:
            case 3:
                why = why(p, isCell);
                why = why == 0 && m.panes.get(p).putty[cell] ? 5 : why;
                if (why == 0) {
                    m.keepForUndo();
                    m.panes.get(p).putty[cell] = true;
                }
                D.told(g, run + "cover", g.cover(p, cell), why == 0, why);
                break;
            case 4:
                why = why(p, true);
                why = why == 0 && m.panes.get(p).kind == 1 ? 5 : why;
                if (why == 0) {
                    m.keepForUndo();
                    m.panes.get(p).broken = true;
                }
                D.told(g, run + "breaks", g.breaks(p), why == 0, why);
                break;
            case 5:
                boolean can = m.undo();
                D.told(g, run + "undo", g.undo(), can, can ? 0 : 6);
                break;
            default:
                marks();
        }
        D.due(run + "size(13)", g.size(13), m.before.size());
        D.due(run + "size(14)", g.size(14), m.marks.size());
    }

    private static void marks() {
        if (random.nextBoolean()) {
            int number = m.marks.size();
            due("mark", g.mark(), number == 3 ? 3 : 0, number);
            if (number < 3) {
                m.mark();
            }
        } else {
            int mark = some(m.marks.size());
            boolean is = mark >= 0 && mark < m.marks.size();
            D.told(g, run + "back", g.back(mark), is, is ? 0 : 1);
            if (is) {
                m.back(mark);
            }
        }
    }

    private static void ask() {
        switch (random.nextInt(8)) {
            case 0: panes(); break;
            case 1: more(); break;
            case 2: ways(); break;
            case 3: plan(); break;
            case 4: made(); break;
            case 5: putty(); break;
            case 6: shards(); break;
            default: games();
        }
    }

    private static void panes() {
        int p = some(m.panes.size());
        int q = some(m.panes.size());
        int v = someView();
        int w = some(m.words.size());
        due("word", g.word(w), isWord(w) ? 0 : 1, isWord(w) ? CityModel.bits(m.words.get(w)) : 0);
        boolean plainView = isView(v) && v != -2;
        due("view", g.view(v), plainView ? 0 : 1, plainView ? CityModel.bits(m.views.get(v)) : 0);
        int why = why(p, isView(v));
        due("seen", g.seen(p, v), why, why == 0 ? CityModel.bits(m.seen(m.panes.get(p), v)) : 0);
        due("read", g.read(p, v), why, why == 0 ? m.read(m.panes.get(p), v) : 0);
        why = why(p, isPane(q) && p != q);
        why = why == 0 ? why(q, true) : why;
        due("together", g.together(p, q), why,
                why == 0 ? CityModel.bits(m.together(m.panes.get(p), m.panes.get(q))) : 0);
        due("readTogether", g.readTogether(p, q), why,
                why == 0 ? m.readOf(m.together(m.panes.get(p), m.panes.get(q))) : 0);
        due("pairFor", g.pairFor(w), isWord(w) ? 0 : 1, isWord(w) ? m.pairFor(w) : 0);
    }

    private static void more() {
        int p = some(m.panes.size());
        int w = some(m.words.size());
        int why = why(p, isWord(w));
        int views = 0;
        for (int v = 0; why == 0 && v < m.views.size(); v++) {
            views |= m.read(m.panes.get(p), v) == w ? 1 << v : 0;
        }
        due("viewsFor", g.viewsFor(p, w), why, views);
        if (isPane(p)) {
            CityModel.Pane pane = m.panes.get(p);
            due("pane 0", g.pane(p, 0), 0, pane.kind);
            due("pane 1", g.pane(p, 1), 0, CityModel.bits(pane.stroke));
            due("pane 2", g.pane(p, 2), 0, CityModel.bits(pane.putty));
            due("pane 3", g.pane(p, 3), 0, pane.broken ? 1 : 0);
            due("pane 4", g.pane(p, 4), 0, m.light(pane));
        }
        int before = 0;
        for (int i = 0; i < m.panes.size(); i++) {
            if (!m.panes.get(i).broken && m.read(m.panes.get(i), -2) != -2) {
                D.due(run + "led", g.led(before), i);
                before++;
            }
        }
        D.noSuchLed(g, before);
    }

    private static void ways() {
        int p = some(m.panes.size());
        int from = some(m.corners.size());
        int to = some(m.corners.size());
        int i = random.nextInt(5) - 1;
        boolean are = isCorner(from) && isCorner(to);
        List<Integer> way = are ? m.soonest(from, to, List.of()) : List.of();
        due("soonest", g.soonest(from, to), are ? 0 : 1, way.isEmpty() ? -2 : m.minutes(way));
        boolean is = i >= 0 && i < way.size();
        due("soonestAt", g.soonestAt(from, to, i), is ? 0 : 1, is ? way.get(i) : 0);
        int why = why(p, are);
        way = why == 0 ? m.soonest(from, to, m.readingThieves(m.panes.get(p))) : List.of();
        due("secret", g.secret(p, from, to), why, way.isEmpty() ? -2 : m.minutes(way));
        is = i >= 0 && i < way.size();
        due("secretAt", g.secretAt(p, from, to, i), why != 0 ? why : is ? 0 : 1, is ? way.get(i) : 0);
        way = why == 0 ? m.safest(m.panes.get(p), from, to) : List.of();
        why = why == 0 && way.isEmpty() ? 6 : why;
        for (int half = 0; half < 2; half++) {
            due("safest", g.safest(p, from, to, half == 1), why,
                    why == 0 ? m.chance(way, m.panes.get(p).kind == 1)[half].longValueExact() : 0);
        }
        is = i >= 0 && i < way.size();
        due("safestAt", g.safestAt(p, from, to, i), why != 0 ? why : is ? 0 : 1, is ? way.get(i) : 0);
    }

    private static void plan() {
        int unread = 0;
        for (int l = 0; l < m.letters.size(); l++) {
            int[] letter = m.letters.get(l);
            for (int what = 0; what < 3; what++) {
                due("sent", g.sent(l, what), 0, letter[what]);
            }
            List<Integer> way = m.soonest(letter[1], letter[2], List.of());
            due("sent 3", g.sent(l, 3), 0, way.isEmpty() ? -2 : m.minutes(way));
            int corners = 0;
            int words = 0;
            for (int c : m.readers(l)) {
                corners |= 1 << c;
                words |= 1 << m.read(m.panes.get(letter[0]), m.corners.get(c));
            }
            due("readers", g.readers(l), 0, corners);
            due("overheard", g.overheard(l), 0, words);
            unread |= corners == 0 ? 1 << l : 0;
        }
        due("unread", g.unread(), 0, unread);
    }

    private static void made() {
        int[] w = {some(m.words.size()), some(m.words.size()), some(m.words.size())};
        int v = someView();
        int u = someView();
        boolean are = isWord(w[0]) && isWord(w[1]) && isWord(w[2]) && isView(v) && isView(u);
        int[] best = are ? m.made(w[0], v, w[1], u, w[2]) : null;
        due("made", g.made(w[0], v, w[1], u, w[2]), are ? 0 : 1, best == null ? -2 : best[0]);
        int why = !are ? 1 : best == null ? 6 : 0;
        due("madeOf one", g.madeOf(w[0], v, w[1], u, w[2], false), why, best == null ? 0 : best[1]);
        due("madeOf other", g.madeOf(w[0], v, w[1], u, w[2], true), why, best == null ? 0 : best[2]);
    }

    private static void putty() {
        int p = some(m.panes.size());
        int v = someView();
        int w = some(m.words.size());
        int why = why(p, isView(v));
        int cells = why == 0 ? m.putty(m.panes.get(p), v) : 0;
        due("putty", g.putty(p, v), why, cells == -2 ? -2 : Integer.bitCount(cells));
        due("puttyOf", g.puttyOf(p, v), why, cells == -2 ? 0 : cells);
        int could = 0;
        for (int i = 0; why == 0 && i < m.words.size(); i++) {
            could |= m.scratches(m.panes.get(p), v, i) == -2 ? 0 : 1 << i;
        }
        due("could", g.could(p, v), why, could);
        why = why(p, isView(v) && isWord(w));
        due("scratches", g.scratches(p, v, w), why, why == 0 ? m.scratches(m.panes.get(p), v, w) : 0);
    }

    private static void shards() {
        List<Integer> wholes = m.wholes();
        due("wholes", g.wholes(), 0, wholes.size());
        due("missing", g.missing(), 0, m.missing());
        int i = some(wholes.size());
        boolean is = i >= 0 && i < wholes.size();
        int why = is ? 0 : 1;
        due("whole", g.whole(i), why, is ? wholes.get(i) : 0);
        due("written", g.written(i), why, is ? CityModel.bits(m.written(wholes.get(i))) : 0);
        due("wordOf", g.wordOf(i), why, is ? m.readOf(m.written(wholes.get(i))) : 0);
        due("owner", g.owner(i), why, is ? m.owner(wholes.get(i)) : 0);
    }

    private static void games() {
        due("shelf", g.shelf(), m.shelf == -1 ? 6 : 0, m.shelf == -1 ? 0 : m.shelfSet());
        int p = some(m.panes.size());
        int v = someView();
        int why = why(p, isView(v));
        D.told(g, run + "gain", g.gain(p, v), why == 0 ? m.gain(m.panes.get(p), v) : -100, why);
        List<Integer> rests = m.rests();
        due("rests", g.rests(), 0, rests.size());
        due("rest", g.rest(), 0, rests.isEmpty() ? -2 : rests.get(0));
        int seed = random.nextInt(65537);
        int n = random.nextInt(100);
        int[] days = m.days(seed, n);
        due("left", g.left(seed, n), 0, days[0]);
        due("hails", g.hails(seed, n), 0, days[1]);
    }
}
