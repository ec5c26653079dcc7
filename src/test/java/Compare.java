import java.util.ArrayList;
import java.util.List;

/** An object and the model of its city: each call of both, with any arguments, must answer alike. */
final class Compare {
    /** An object is used for 512 calls: ahead of that another one is made, by the same text and acts. */
    private static final int MOST_CALLS = 470;

    private final Due d;
    private final String text;
    private final List<int[]> acts = new ArrayList<>();
    final CityModel m;
    private GlassPost g;
    private int calls;
    String run = "";

    Compare(Due d, String text) {
        this.d = d;
        this.text = text;
        m = new CityModel(new TextModel(text));
        renew();
    }

    private void renew() {
        g = new GlassPost();
        d.due(run + "city", Due.city(g, text), m.panes.size());
        calls = 2 + text.length() / 20;
        for (int[] act : acts) {
            again(act);
        }
    }

    private void again(int[] act) {
        calls++;
        switch (act[0]) {
            case 0: g.scratch(act[1], act[2]); break;
            case 1: g.cover(act[1], act[2]); break;
            case 2: g.breaks(act[1]); break;
            case 3: g.undo(); break;
            case 4: g.mark(); break;
            default: g.back(act[1]);
        }
    }

    /** Room for the calls of one comparison. */
    private void soon() {
        if (calls > MOST_CALLS) {
            renew();
        }
    }

    boolean isPane(int p) {
        return p >= 0 && p < m.panes.size();
    }

    boolean isWord(int w) {
        return w >= 0 && w < m.words.size();
    }

    boolean isView(int v) {
        return v == -2 || v >= 0 && v < m.views.size();
    }

    boolean isCorner(int c) {
        return c >= 0 && c < m.corners.size();
    }

    private int why(int p, boolean others) {
        return !isPane(p) || !others ? 1 : m.panes.get(p).broken ? 5 : 0;
    }

    private void due(String call, long got, int why, long want) {
        calls += 2;
        d.told(g, run + call, got, why == 0 ? want : -1, why);
    }

    private void done(String call, boolean got, int why) {
        calls += 2;
        d.told(g, run + call, got, why == 0, why);
    }

    void sizes() {
        soon();
        int[] due = {m.wide, m.high, m.hail, m.ice, m.panes.size(), m.words.size(), m.views.size(), m.corners.size(),
            m.streets.size(), m.thieves.size(), m.letters.size(), m.people, m.shards.size(), m.before.size(), m.marks.size(), 0};
        for (int what = 0; what < 16; what++) {
            d.due(run + "size(" + what + ")", g.size(what), due[what]);
            calls++;
        }
    }

    // ---- acts: those that are done are kept, for the next object

    void scratch(int p, int cell) {
        soon();
        int why = why(p, cell >= 0 && cell < m.cells);
        why = why == 0 && m.panes.get(p).stroke[cell] ? 5 : why;
        done("scratch(" + p + ", " + cell + ")", g.scratch(p, cell), why);
        if (why == 0) {
            m.keepForUndo();
            m.panes.get(p).stroke[cell] = true;
            acts.add(new int[] {0, p, cell});
        }
    }

    void cover(int p, int cell) {
        soon();
        int why = why(p, cell >= 0 && cell < m.cells);
        why = why == 0 && m.panes.get(p).putty[cell] ? 5 : why;
        done("cover(" + p + ", " + cell + ")", g.cover(p, cell), why);
        if (why == 0) {
            m.keepForUndo();
            m.panes.get(p).putty[cell] = true;
            acts.add(new int[] {1, p, cell});
        }
    }

    void breaks(int p) {
        soon();
        int why = why(p, true);
        why = why == 0 && m.panes.get(p).kind == 1 ? 5 : why;
        done("breaks(" + p + ")", g.breaks(p), why);
        if (why == 0) {
            m.keepForUndo();
            m.panes.get(p).broken = true;
            acts.add(new int[] {2, p, 0});
        }
    }

    void undo() {
        soon();
        boolean can = m.undo();
        done("undo", g.undo(), can ? 0 : 6);
        if (can) {
            acts.add(new int[] {3, 0, 0});
        }
    }

    void mark() {
        soon();
        int number = m.marks.size();
        due("mark", g.mark(), number == 3 ? 3 : 0, number);
        if (number < 3) {
            m.mark();
            acts.add(new int[] {4, 0, 0});
        }
    }

    void back(int mark) {
        soon();
        boolean is = mark >= 0 && mark < m.marks.size();
        done("back(" + mark + ")", g.back(mark), is ? 0 : 1);
        if (is) {
            m.back(mark);
            acts.add(new int[] {5, mark, 0});
        }
    }

    // ---- questions

    void panes(int p, int v) {
        soon();
        String of = "(" + p + ", " + v + ")";
        int why = why(p, isView(v));
        due("seen" + of, g.seen(p, v), why, why == 0 ? CityModel.bits(m.seen(m.panes.get(p), v)) : 0);
        due("read" + of, g.read(p, v), why, why == 0 ? m.read(m.panes.get(p), v) : 0);
        d.told(g, run + "gain" + of, g.gain(p, v), why == 0 ? m.gain(m.panes.get(p), v) : -100, why);
        int cells = why == 0 ? m.putty(m.panes.get(p), v) : 0;
        due("putty" + of, g.putty(p, v), why, cells == -2 ? -2 : Integer.bitCount(cells));
        due("puttyOf" + of, g.puttyOf(p, v), why, cells == -2 ? 0 : cells);
        int could = 0;
        for (int i = 0; why == 0 && i < m.words.size(); i++) {
            could |= m.scratches(m.panes.get(p), v, i) == -2 ? 0 : 1 << i;
        }
        due("could" + of, g.could(p, v), why, could);
    }

    void pairs(int p, int q) {
        soon();
        int why = why(p, isPane(q) && p != q);
        why = why == 0 ? why(q, true) : why;
        due("together(" + p + ", " + q + ")", g.together(p, q), why,
                why == 0 ? CityModel.bits(m.together(m.panes.get(p), m.panes.get(q))) : 0);
        due("readTogether(" + p + ", " + q + ")", g.readTogether(p, q), why,
                why == 0 ? m.readOf(m.together(m.panes.get(p), m.panes.get(q))) : 0);
    }

    void words(int p, int w, int v) {
        soon();
        due("word(" + w + ")", g.word(w), isWord(w) ? 0 : 1, isWord(w) ? CityModel.bits(m.words.get(w)) : 0);
        boolean plainView = isView(v) && v != -2;
        due("view(" + v + ")", g.view(v), plainView ? 0 : 1, plainView ? CityModel.bits(m.views.get(v)) : 0);
        due("pairFor(" + w + ")", g.pairFor(w), isWord(w) ? 0 : 1, isWord(w) ? m.pairFor(w) : 0);
        int why = why(p, isWord(w));
        int views = 0;
        for (int i = 0; why == 0 && i < m.views.size(); i++) {
            views |= m.read(m.panes.get(p), i) == w ? 1 << i : 0;
        }
        due("viewsFor(" + p + ", " + w + ")", g.viewsFor(p, w), why, views);
        why = why(p, isView(v) && isWord(w));
        due("scratches(" + p + ", " + v + ", " + w + ")", g.scratches(p, v, w), why,
                why == 0 ? m.scratches(m.panes.get(p), v, w) : 0);
    }

    void pane(int p, int what) {
        soon();
        boolean is = isPane(p) && what >= 0 && what < 5;
        long want = 0;
        if (is) {
            CityModel.Pane pane = m.panes.get(p);
            int[] all = {pane.kind, CityModel.bits(pane.stroke), CityModel.bits(pane.putty), pane.broken ? 1 : 0, m.light(pane)};
            want = all[what];
        }
        due("pane(" + p + ", " + what + ")", g.pane(p, what), is ? 0 : 1, want);
    }

    void led() {
        soon();
        int before = 0;
        for (int i = 0; i < m.panes.size(); i++) {
            if (!m.panes.get(i).broken && m.read(m.panes.get(i), -2) != -2) {
                d.due(run + "led(" + before + ")", g.led(before), i);
                before++;
            }
        }
        d.noSuchLed(g, before);
        d.noSuchLed(g, -1);
        calls += before + 2;
    }

    void ways(int p, int from, int to, int i) {
        soon();
        String of = "(" + p + ", " + from + ", " + to + ", " + i + ")";
        boolean are = isCorner(from) && isCorner(to);
        List<Integer> way = are ? m.soonest(from, to, List.of()) : List.of();
        due("soonest" + of, g.soonest(from, to), are ? 0 : 1, way.isEmpty() ? -2 : m.minutes(way));
        boolean is = i >= 0 && i < way.size();
        due("soonestAt" + of, g.soonestAt(from, to, i), is ? 0 : 1, is ? way.get(i) : 0);
        int why = why(p, are);
        way = why == 0 ? m.soonest(from, to, m.readingThieves(m.panes.get(p))) : List.of();
        due("secret" + of, g.secret(p, from, to), why, way.isEmpty() ? -2 : m.minutes(way));
        is = i >= 0 && i < way.size();
        due("secretAt" + of, g.secretAt(p, from, to, i), why != 0 ? why : is ? 0 : 1, is ? way.get(i) : 0);
        way = why == 0 ? m.safest(m.panes.get(p), from, to) : List.of();
        why = why == 0 && way.isEmpty() ? 6 : why;
        for (int half = 0; half < 2; half++) {
            due("safest" + of, g.safest(p, from, to, half == 1), why,
                    why == 0 ? m.chance(way, m.panes.get(p).kind == 1)[half].longValueExact() : 0);
        }
        is = i >= 0 && i < way.size();
        due("safestAt" + of, g.safestAt(p, from, to, i), why != 0 ? why : is ? 0 : 1, is ? way.get(i) : 0);
    }

    void letter(int l) {
        soon();
        boolean is = l >= 0 && l < m.letters.size();
        int why = is ? 0 : 1;
        int[] letter = is ? m.letters.get(l) : new int[3];
        for (int what = 0; what < 3; what++) {
            due("sent(" + l + ", " + what + ")", g.sent(l, what), why, letter[what]);
        }
        due("sent(" + l + ", 4)", g.sent(l, 4), 1, 0);
        due("sent(" + l + ", -1)", g.sent(l, -1), 1, 0);
        List<Integer> way = is ? m.soonest(letter[1], letter[2], List.of()) : List.of();
        due("sent(" + l + ", 3)", g.sent(l, 3), why, way.isEmpty() ? -2 : m.minutes(way));
        int corners = 0;
        int words = 0;
        for (int c : is ? m.readers(l) : new ArrayList<Integer>()) {
            corners |= 1 << c;
            words |= 1 << m.read(m.panes.get(letter[0]), m.corners.get(c));
        }
        due("readers(" + l + ")", g.readers(l), why, corners);
        due("overheard(" + l + ")", g.overheard(l), why, words);
    }

    void unread() {
        soon();
        int unread = 0;
        for (int l = 0; l < m.letters.size(); l++) {
            unread |= m.readers(l).isEmpty() ? 1 << l : 0;
        }
        due("unread", g.unread(), 0, unread);
    }

    void made(int[] w, int v, int u) {
        soon();
        String of = "(" + w[0] + ", " + v + ", " + w[1] + ", " + u + ", " + w[2] + ")";
        boolean are = isWord(w[0]) && isWord(w[1]) && isWord(w[2]) && isView(v) && isView(u);
        int[] best = are ? m.made(w[0], v, w[1], u, w[2]) : null;
        due("made" + of, g.made(w[0], v, w[1], u, w[2]), are ? 0 : 1, best == null ? -2 : best[0]);
        int why = !are ? 1 : best == null ? 6 : 0;
        due("madeOf one" + of, g.madeOf(w[0], v, w[1], u, w[2], false), why, best == null ? 0 : best[1]);
        due("madeOf other" + of, g.madeOf(w[0], v, w[1], u, w[2], true), why, best == null ? 0 : best[2]);
    }

    void shards(int i) {
        soon();
        List<Integer> wholes = m.wholes();
        due("wholes", g.wholes(), 0, wholes.size());
        due("missing", g.missing(), 0, m.missing());
        boolean is = i >= 0 && i < wholes.size();
        int why = is ? 0 : 1;
        due("whole(" + i + ")", g.whole(i), why, is ? wholes.get(i) : 0);
        due("written(" + i + ")", g.written(i), why, is ? CityModel.bits(m.written(wholes.get(i))) : 0);
        due("wordOf(" + i + ")", g.wordOf(i), why, is ? m.readOf(m.written(wholes.get(i))) : 0);
        due("owner(" + i + ")", g.owner(i), why, is ? m.owner(wholes.get(i)) : 0);
    }

    void games() {
        soon();
        due("shelf", g.shelf(), m.shelf == -1 ? 6 : 0, m.shelf == -1 ? 0 : m.shelfSet());
        List<Integer> rests = m.rests();
        due("rests", g.rests(), 0, rests.size());
        due("rest", g.rest(), 0, rests.isEmpty() ? -2 : rests.get(0));
    }

    void days(int seed, int n) {
        soon();
        boolean are = seed >= 0 && seed <= 65536 && n >= 0 && n <= 99;
        int[] days = are ? m.days(seed, n) : new int[2];
        due("left(" + seed + ", " + n + ")", g.left(seed, n), are ? 0 : 2, days[0]);
        due("hails(" + seed + ", " + n + ")", g.hails(seed, n), are ? 0 : 2, days[1]);
    }
}
