import java.math.BigInteger;
import java.util.ArrayDeque;
import java.util.ArrayList;
import java.util.Arrays;
import java.util.Collections;
import java.util.Comparator;
import java.util.Deque;
import java.util.List;

/** A second city, slow and straight from the definitions: it tries everything and takes the best. */
final class CityModel {
    static final class Pane {
        int kind;
        boolean[] stroke;
        boolean[] putty;
        boolean broken;

        Pane copy() {
            Pane p = new Pane();
            p.kind = kind;
            p.stroke = stroke.clone();
            p.putty = putty.clone();
            p.broken = broken;
            return p;
        }
    }

    final int wide;
    final int high;
    final int cells;
    final int hail;
    final int ice;
    final int shelf;
    List<Pane> panes = new ArrayList<>();
    final List<boolean[]> words = new ArrayList<>();
    final List<boolean[]> views = new ArrayList<>();
    final List<Integer> corners = new ArrayList<>();
    final List<int[]> streets = new ArrayList<>();
    final List<Integer> thieves = new ArrayList<>();
    final List<int[]> letters = new ArrayList<>();
    final int people;
    final List<String> shards = new ArrayList<>();
    final List<Integer> shardOwners = new ArrayList<>();
    final Deque<List<Pane>> before = new ArrayDeque<>();
    final List<List<Pane>> marks = new ArrayList<>();

    CityModel(TextModel text) {
        List<Object> city = text.lines.get("city").get(0);
        wide = (Integer) city.get(0);
        high = (Integer) city.get(1);
        cells = wide * high;
        hail = (Integer) city.get(2);
        ice = (Integer) city.get(3);
        for (List<Object> line : text.lines.get("pane")) {
            Pane p = new Pane();
            p.kind = (Integer) line.get(0);
            p.stroke = cellsOf((String) line.get(1));
            p.putty = new boolean[cells];
            panes.add(p);
        }
        for (List<Object> line : text.lines.get("word")) {
            words.add(cellsOf((String) line.get(0)));
        }
        for (List<Object> line : text.lines.get("view")) {
            views.add(cellsOf((String) line.get(0)));
        }
        for (List<Object> line : text.lines.get("corner")) {
            corners.add((Integer) line.get(0));
        }
        for (List<Object> line : text.lines.get("street")) {
            streets.add(new int[] {(Integer) line.get(0), (Integer) line.get(1), (Integer) line.get(2), (Integer) line.get(3)});
        }
        for (List<Object> line : text.lines.get("thief")) {
            thieves.add((Integer) line.get(0));
        }
        for (List<Object> line : text.lines.get("sent")) {
            letters.add(new int[] {(Integer) line.get(0), (Integer) line.get(1), (Integer) line.get(2)});
        }
        people = text.many("person");
        for (List<Object> line : text.lines.get("shard")) {
            shardOwners.add((Integer) line.get(0));
            shards.add((String) line.get(1));
        }
        shelf = text.many("shelf") == 0 ? -1 : (Integer) text.lines.get("shelf").get(0).get(0);
    }

    private static boolean[] cellsOf(String rows) {
        boolean[] cells = new boolean[rows.length()];
        for (int i = 0; i < cells.length; i++) {
            cells[i] = rows.charAt(i) == 'x';
        }
        return cells;
    }

    static int bits(boolean[] cells) {
        int bits = 0;
        for (int i = 0; i < cells.length; i++) {
            bits += cells[i] ? 1 << i : 0;
        }
        return bits;
    }

    static int count(boolean[] cells) {
        int many = 0;
        for (boolean c : cells) {
            many += c ? 1 : 0;
        }
        return many;
    }

    boolean[] seen(Pane p, int view) {
        boolean[] seen = new boolean[cells];
        for (int i = 0; i < cells; i++) {
            boolean dark = view != -2 && views.get(view)[i];
            seen[i] = p.stroke[i] && !dark && !p.putty[i];
        }
        return seen;
    }

    int readOf(boolean[] strokes) {
        for (int w = 0; w < words.size(); w++) {
            if (Arrays.equals(words.get(w), strokes)) {
                return w;
            }
        }
        return -2;
    }

    int read(Pane p, int view) {
        return readOf(seen(p, view));
    }

    boolean[] together(Pane p, Pane q) {
        boolean[] both = seen(p, -2);
        boolean[] other = seen(q, -2);
        for (int i = 0; i < cells; i++) {
            both[i] |= other[i];
        }
        return both;
    }

    int pairFor(int word) {
        for (int p = 0; p < panes.size(); p++) {
            for (int q = p + 1; q < panes.size(); q++) {
                if (!panes.get(p).broken && !panes.get(q).broken
                        && Arrays.equals(together(panes.get(p), panes.get(q)), words.get(word))) {
                    return 10 * p + q;
                }
            }
        }
        return -2;
    }

    // ---- ways: all of them are written down, then the best is looked for

    private void allWays(List<Integer> way, int to, List<List<Integer>> all) {
        int at = way.get(way.size() - 1);
        if (at == to) {
            all.add(new ArrayList<>(way));
            return;
        }
        for (int[] s : streets) {
            int next = s[0] == at ? s[1] : s[1] == at ? s[0] : -1;
            if (next != -1 && !way.contains(next)) {
                way.add(next);
                allWays(way, to, all);
                way.remove(way.size() - 1);
            }
        }
    }

    List<List<Integer>> allWays(int from, int to) {
        List<List<Integer>> all = new ArrayList<>();
        allWays(new ArrayList<>(List.of(from)), to, all);
        return all;
    }

    private int[] street(int a, int b) {
        for (int[] s : streets) {
            if (s[0] == a && s[1] == b || s[0] == b && s[1] == a) {
                return s;
            }
        }
        throw new IllegalStateException("no street");
    }

    int minutes(List<Integer> way) {
        int sum = 0;
        for (int i = 1; i < way.size(); i++) {
            sum += street(way.get(i - 1), way.get(i))[2];
        }
        return sum;
    }

    BigInteger[] chance(List<Integer> way, boolean thick) {
        BigInteger upper = BigInteger.ONE;
        BigInteger lower = BigInteger.ONE;
        for (int i = 1; i < way.size() && !thick; i++) {
            upper = upper.multiply(BigInteger.valueOf(100 - street(way.get(i - 1), way.get(i))[3]));
            lower = lower.multiply(BigInteger.valueOf(100));
        }
        BigInteger common = upper.gcd(lower);
        return new BigInteger[] {upper.divide(common), lower.divide(common)};
    }

    private static int byCorners(List<Integer> a, List<Integer> b) {
        for (int i = 0; i < Math.min(a.size(), b.size()); i++) {
            if (!a.get(i).equals(b.get(i))) {
                return a.get(i) - b.get(i);
            }
        }
        return a.size() - b.size();
    }

    List<Integer> soonest(int from, int to, List<Integer> shut) {
        List<List<Integer>> all = allWays(from, to);
        all.removeIf(way -> !Collections.disjoint(way, shut));
        Comparator<List<Integer>> order = Comparator.comparingInt(this::minutes);
        return all.isEmpty() ? List.of() : Collections.min(all, order.thenComparing(CityModel::byCorners));
    }

    List<Integer> safest(Pane p, int from, int to) {
        List<List<Integer>> all = allWays(from, to);
        Comparator<List<Integer>> order = (a, b) -> {
            BigInteger[] x = chance(a, p.kind == 1);
            BigInteger[] y = chance(b, p.kind == 1);
            return y[0].multiply(x[1]).compareTo(x[0].multiply(y[1]));
        };
        return all.isEmpty() ? List.of() : Collections.min(all, order.thenComparing(CityModel::byCorners));
    }

    List<Integer> readingThieves(Pane p) {
        List<Integer> reading = new ArrayList<>();
        for (int c : thieves) {
            if (!p.broken && read(p, corners.get(c)) != -2) {
                reading.add(c);
            }
        }
        return reading;
    }

    List<Integer> readers(int l) {
        int[] letter = letters.get(l);
        List<Integer> reading = readingThieves(panes.get(letter[0]));
        reading.retainAll(soonest(letter[1], letter[2], List.of()));
        return reading;
    }

    // ---- made panes: every pair of panes is tried

    int[] made(int first, int view, int second, int other, int third) {
        int[] best = null;
        int dark = view == -2 ? 0 : bits(views.get(view));
        int otherDark = other == -2 ? 0 : bits(views.get(other));
        for (int one = 0; one < 1 << cells; one++) {
            if ((one & ~dark) != bits(words.get(first))) {
                continue;
            }
            for (int two = 0; two < 1 << cells; two++) {
                if ((two & ~otherDark) == bits(words.get(second)) && (one | two) == bits(words.get(third))) {
                    int many = Integer.bitCount(one) + Integer.bitCount(two);
                    if (best == null || many < best[0]) {
                        best = new int[] {many, one, two};
                    }
                }
            }
        }
        return best;
    }

    private static List<Integer> listOf(int bits) {
        List<Integer> list = new ArrayList<>();
        for (int i = 0; i < 32; i++) {
            if ((bits >> i & 1) != 0) {
                list.add(i);
            }
        }
        return list;
    }

    /** The cells as bits, or -2. */
    int putty(Pane p, int view) {
        int best = -2;
        for (int set = 0; set < 1 << cells; set++) {
            if (Integer.bitCount(set) > 4) {
                continue;
            }
            Pane q = p.copy();
            for (int cell : listOf(set)) {
                q.putty[cell] = true;
            }
            if (read(q, view) != -2) {
                continue;
            }
            int fewer = best == -2 ? -1 : Integer.bitCount(set) - Integer.bitCount(best);
            if (fewer < 0 || fewer == 0 && byCorners(listOf(set), listOf(best)) < 0) {
                best = set;
            }
        }
        return best;
    }

    int scratches(Pane p, int view, int word) {
        int best = -2;
        for (int set = 0; set < 1 << cells; set++) {
            Pane q = p.copy();
            for (int cell : listOf(set & ~bits(p.stroke))) {
                q.stroke[cell] = true;
            }
            int many = Integer.bitCount(set & ~bits(p.stroke));
            if (Arrays.equals(seen(q, view), words.get(word)) && (best == -2 || many < best)) {
                best = many;
            }
        }
        return best;
    }

    // ---- shards

    List<Integer> wholes() {
        List<Integer> wholes = new ArrayList<>();
        for (int set = 0; set < 1 << shards.size(); set++) {
            int[] times = new int[cells];
            for (int s : listOf(set)) {
                for (int i = 0; i < cells; i++) {
                    times[i] += shards.get(s).charAt(i) == 'm' ? 0 : 1;
                }
            }
            if (Arrays.stream(times).allMatch(t -> t == 1)) {
                wholes.add(set);
            }
        }
        return wholes;
    }

    boolean[] written(int set) {
        boolean[] strokes = new boolean[cells];
        for (int s : listOf(set)) {
            for (int i = 0; i < cells; i++) {
                strokes[i] |= shards.get(s).charAt(i) == 'x';
            }
        }
        return strokes;
    }

    int owner(int set) {
        int[] has = new int[people];
        for (int s : listOf(set)) {
            has[shardOwners.get(s)] += shards.get(s).replace("m", "").length();
        }
        int owner = 0;
        for (int i = 1; i < people; i++) {
            owner = has[i] > has[owner] ? i : owner;
        }
        return owner;
    }

    int missing() {
        int missing = 0;
        for (int i = 0; i < cells; i++) {
            final int cell = i;
            missing += shards.stream().allMatch(s -> s.charAt(cell) == 'm') ? 1 << i : 0;
        }
        return missing;
    }

    // ---- the shelf, the game, hail

    int light(Pane p) {
        return cells - count(p.stroke);
    }

    int shelfSet() {
        List<Integer> sets = new ArrayList<>();
        for (int set = 0; set < 1 << panes.size(); set++) {
            if (listOf(set).stream().noneMatch(i -> panes.get(i).broken) && lightOf(set) <= shelf) {
                sets.add(set);
            }
        }
        Comparator<Integer> order = Comparator.comparingInt(s -> -Integer.bitCount(s));
        return Collections.min(sets, order.thenComparingInt(s -> -lightOf(s)).thenComparingInt(s -> s));
    }

    private int lightOf(int set) {
        return listOf(set).stream().mapToInt(i -> light(panes.get(i))).sum();
    }

    int gain(Pane p, int view) {
        return count(seen(p, view)) * (read(p, view) == -2 ? 1 : -1);
    }

    List<Integer> rests() {
        List<Integer> rests = new ArrayList<>();
        for (int p = 0; p < panes.size(); p++) {
            for (int v = -1; v < views.size() && !panes.get(p).broken; v++) {
                int view = v == -1 ? -2 : v;
                int most = panes.stream().filter(x -> !x.broken).mapToInt(x -> gain(x, view)).max().getAsInt();
                int least = gain(panes.get(p), -2);
                for (int u = 0; u < views.size(); u++) {
                    least = Math.min(least, gain(panes.get(p), u));
                }
                int now = gain(panes.get(p), view);
                if (now == most && now == least) {
                    rests.add(10 * p + v + 1);
                }
            }
        }
        return rests;
    }

    /** What is left, and how often it hails. */
    int[] days(int seed, int n) {
        boolean[] gone = new boolean[panes.size()];
        for (int p = 0; p < gone.length; p++) {
            gone[p] = panes.get(p).broken;
        }
        BigInteger s = BigInteger.valueOf(seed);
        int hails = 0;
        for (int day = 1; day <= n; day++) {
            s = draw(s);
            if (s.intValue() % 100 < hail) {
                hails++;
                s = draw(s);
                int p = s.intValue() % panes.size();
                gone[p] |= panes.get(p).kind != 1;
            }
            for (int p = 0; p < gone.length; p++) {
                gone[p] |= day >= ice && panes.get(p).kind == 2;
            }
        }
        int left = 0;
        for (int p = 0; p < gone.length; p++) {
            left += gone[p] ? 0 : 1 << p;
        }
        return new int[] {left, hails};
    }

    private static BigInteger draw(BigInteger s) {
        return s.multiply(BigInteger.valueOf(75)).add(BigInteger.valueOf(74)).mod(BigInteger.valueOf(65537));
    }

    // ---- acts: the whole state is kept ahead of each

    private List<Pane> copy(List<Pane> from) {
        List<Pane> copy = new ArrayList<>();
        for (Pane p : from) {
            copy.add(p.copy());
        }
        return copy;
    }

    void keepForUndo() {
        before.addLast(copy(panes));
        if (before.size() > 16) {
            before.removeFirst();
        }
    }

    boolean undo() {
        if (before.isEmpty()) {
            return false;
        }
        panes = before.removeLast();
        return true;
    }

    void mark() {
        marks.add(copy(panes));
    }

    void back(int mark) {
        panes = copy(marks.get(mark));
        before.clear();
    }
}
