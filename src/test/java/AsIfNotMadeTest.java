import java.lang.reflect.InvocationTargetException;
import java.lang.reflect.Method;
import java.util.ArrayList;
import java.util.HashMap;
import java.util.List;
import java.util.Map;
import java.util.NoSuchElementException;

/**
 * Each call, refused by each argument that is too small, too large or far outside, in each of some states: it answers
 * NONE, trouble() tells its number, where() tells no place, and all later calls answer as if it had not been made.
 */
public final class AsIfNotMadeTest {
    private static final Due D = new Due("AsIfNotMadeTest");

    /**
     * Behind each call what its arguments are: p pane, w word, V view or none, v view, c corner, l letter, k cell,
     * m mark, i whole, a corner of a way, x or y what is asked of a pane or letter, s seed, n days, b yes or no.
     */
    private static final String[] CALLS = {"pane px", "word w", "view v", "seen pV", "read pV", "together pp",
        "readTogether pp", "viewsFor pw", "pairFor w", "soonest cc", "soonestAt cca", "secret pcc", "secretAt pcca",
        "safest pccb", "safestAt pcca", "sent ly", "readers l", "overheard l", "unread ", "made wVwVw", "madeOf wVwVwb",
        "putty pV", "puttyOf pV", "scratches pVw", "could pV", "wholes ", "whole i", "written i", "wordOf i", "owner i",
        "missing ", "shelf ", "gain pV", "rests ", "rest ", "left sn", "hails sn", "scratch pk", "cover pk", "breaks p",
        "undo ", "mark ", "back m"};
    private static final String KINDS = "pwVvclkmiaxysn";
    private static final int[] NUMBERS = {Due.LEAST, Due.LEAST + 1, -65537, -256, -100, -33, -32, -31, -3, -2, -1, 0, 1, 2, 3,
        4, 5, 6, 7, 8, 9, 15, 16, 17, 20, 31, 32, 33, 63, 64, 65, 99, 100, 101, 255, 256, 1100, 65535, 65536, 65537, 1 << 20,
        1 << 30, Due.MOST - 1, Due.MOST};

    /** Corner d has no street; pane s is thick; made(0, v, 1, -2, 2) can be against the second view alone. */
    private static final String TOWN = Due.HEAD + ";pane p plain xo,oo;pane q ice ox,oo;pane r plain oo,oo;pane s thick xx,ox"
            + ";word u xo,oo;word w ox,oo;word z xx,ox;view day oo,oo;view dusk oo,ox;corner a day;corner b dusk;corner c day"
            + ";corner d day;street a b 5 breaks 10;street b c 5 breaks 20;street a c 11 breaks 50;thief b;sent p a c;sent q a d"
            + ";person m;person n;shard m xo,mm;shard n mm,ox;shard n mm,xo;shard m oo,oo";
    private static final String OTHER = "city wide 3 high 2 hail 9 ice 9;pane k thick xxo,oxx;word l ooo,ooo";

    private static final Map<String, Method> METHODS = new HashMap<>();

    public static void main(String[] args) throws IllegalAccessException {
        for (Method m : GlassPost.class.getDeclaredMethods()) {
            METHODS.put(m.getName(), m);
        }
        noCity();
        for (int state = 1; state <= 5; state++) {
            outside(state);
            numbersOfCity(state);
        }
        brokenOnes();
        noneThere();
        noRoom();
        faults();
        fullTape();
        notRefused();
        numbersOfTrouble();
        D.end();
    }

    /** 0 no city; 1 as told; 2 much was done; 3 much was done and undone; 4 the tape is full; 5 behind a fault. */
    private static GlassPost made(int state) {
        GlassPost g = new GlassPost();
        if (state > 0) {
            Due.city(g, state == 1 ? TOWN : TOWN + ";shelf 6");
        }
        if (state == 2 || state == 3) {
            g.mark();
            for (int cell = 0; cell < 4; cell++) {
                g.scratch(2, cell);
                g.cover(3, cell);
                g.cover(1, cell);
            }
            g.scratch(0, 1);
            g.scratch(0, 2);
            g.mark();
            g.scratch(1, 0);
            g.cover(0, 3);
            g.breaks(2);
            g.mark();
        }
        for (int i = 0; i < 5 && state == 3; i++) {
            g.undo();
        }
        if (state == 5) {
            Due.city(g, TOWN + ";street a d 0");
        }
        Due.feed(g, state == 4 ? OTHER + " ".repeat(1100 - OTHER.length()) : OTHER);
        return g;
    }

    private static long valueOf(Object answer) {
        if (answer instanceof Boolean) {
            return (Boolean) answer ? 1 : 0;
        }
        return ((Number) answer).longValue();
    }

    private static long call(GlassPost g, String name, Object[] values) throws IllegalAccessException {
        try {
            return valueOf(METHODS.get(name).invoke(g, values));
        } catch (InvocationTargetException e) {
            throw new IllegalStateException(name + " threw " + e.getCause());
        }
    }

    private static long refusal(String name) {
        if (METHODS.get(name).getReturnType() == boolean.class) {
            return 0;
        }
        return name.equals("gain") ? -100 : -1;
    }

    private static String told(String name, Object[] values) {
        StringBuilder text = new StringBuilder(name).append('(');
        for (int i = 0; i < values.length; i++) {
            text.append(i == 0 ? "" : ", ").append(values[i]);
        }
        return text.append(')').toString();
    }

    private static void refused(int state, Snapshot as, String name, int number, Object... values)
            throws IllegalAccessException {
        GlassPost g = made(state);
        String call = told(name, values) + " in state " + state;
        D.due(call, call(g, name, values), refusal(name));
        D.due("trouble() behind " + call, g.trouble(), number);
        D.due("where() behind " + call, g.where(), -1);
        same(call, as, g);
    }

    private static void same(String call, Snapshot as, GlassPost g) {
        String unlike = new Snapshot(g).unlike(as);
        D.due("behind " + call + " " + unlike, unlike.isEmpty(), true);
    }

    /** How many there are of a kind; for the seed and the days the greatest and 1. */
    private static int count(int state, char kind) {
        GlassPost g = made(state);
        switch (kind) {
            case 'p': return g.size(4);
            case 'w': return g.size(5);
            case 'v': return g.size(6);
            case 'V': return g.size(6);
            case 'c': return g.size(7);
            case 'l': return g.size(10);
            case 'k': return g.size(0) * g.size(1);
            case 'm': return g.size(14);
            case 'i': return Math.max(g.wholes(), 0);
            case 'a': return 1;
            case 'x': return 5;
            case 'y': return 4;
            case 's': return 65537;
            default: return 100;
        }
    }

    /** Arguments by which a call is not refused in a state with a city, acts apart. */
    private static Object[] good(String kinds) {
        Object[] values = new Object[kinds.length()];
        int panes = 0;
        for (int i = 0; i < values.length; i++) {
            char kind = kinds.charAt(i);
            values[i] = kind == 'b' ? (Object) false : kind == 'p' ? (Object) panes++ : (Object) 0;
        }
        if (kinds.startsWith("wVw")) {
            values[1] = 1;
            values[2] = 1;
            values[3] = -2;
            values[4] = 2;
        }
        return values;
    }

    private static void noCity() throws IllegalAccessException {
        Snapshot as = new Snapshot(made(0));
        for (String line : CALLS) {
            String name = line.substring(0, line.indexOf(' '));
            String kinds = line.substring(line.indexOf(' ') + 1);
            refused(0, as, name, name.equals("undo") ? 6 : 1, good(kinds));
            for (int i = 0; i < kinds.length(); i++) {
                for (int number : NUMBERS) {
                    if (kinds.charAt(i) != 'b') {
                        Object[] values = good(kinds);
                        values[i] = number;
                        refused(0, as, name, 1, values);
                    }
                }
            }
        }
        numbersOfCity(0);
    }

    private static void outside(int state) throws IllegalAccessException {
        Snapshot as = new Snapshot(made(state));
        Map<Character, Integer> counts = new HashMap<>();
        for (char kind : KINDS.toCharArray()) {
            counts.put(kind, count(state, kind));
        }
        for (String line : CALLS) {
            String name = line.substring(0, line.indexOf(' '));
            String kinds = line.substring(line.indexOf(' ') + 1);
            for (int i = 0; i < kinds.length(); i++) {
                char kind = kinds.charAt(i);
                for (int number : outsideOf(kind, counts)) {
                    Object[] values = good(kinds);
                    values[i] = number;
                    refused(state, as, name, kind == 's' || kind == 'n' ? 2 : 1, values);
                }
            }
        }
        refused(state, as, "together", 1, 0, 0);
        refused(state, as, "readTogether", 1, 3, 3);
        refused(state, as, "left", 2, -1, -1);
        refused(state, as, "seen", 1, -1, -1);
    }

    private static List<Integer> outsideOf(char kind, Map<Character, Integer> counts) {
        List<Integer> numbers = new ArrayList<>();
        if (kind == 'b') {
            return numbers;
        }
        int many = counts.get(kind);
        for (int number : NUMBERS) {
            boolean inside = number >= 0 && number < many || kind == 'V' && number == -2;
            if (!inside) {
                numbers.add(number);
            }
        }
        if (!numbers.contains(many)) {
            numbers.add(many);
        }
        return numbers;
    }

    private static void numbersOfCity(int state) throws IllegalAccessException {
        Snapshot as = new Snapshot(made(state));
        int fed = made(state).size(15);
        for (int n : NUMBERS) {
            if (n < 0 || n > fed) {
                refused(state, as, "city", 2, n);
            }
        }
        refused(state, as, "city", 2, fed + 1);
        int before = made(state).fault();
        GlassPost g = made(state);
        g.city(-1);
        D.due("fault() behind city(-1) in state " + state, g.fault(), before);
    }

    private static void brokenOnes() throws IllegalAccessException {
        Snapshot as = new Snapshot(made(2));
        for (String line : CALLS) {
            String name = line.substring(0, line.indexOf(' '));
            String kinds = line.substring(line.indexOf(' ') + 1);
            if (kinds.startsWith("p") && !name.equals("pane")) {
                Object[] values = good(kinds);
                values[0] = 2;
                refused(2, as, name, 5, values);
            }
            if (kinds.equals("pp")) {
                refused(2, as, name, 5, 0, 2);
            }
        }
        refused(2, as, "scratch", 5, 0, 0);
        refused(2, as, "scratch", 5, 0, 1);
        refused(2, as, "scratch", 5, 2, 3);
        refused(2, as, "cover", 5, 3, 3);
        refused(2, as, "cover", 5, 2, 3);
        refused(2, as, "breaks", 5, 3);
        refused(2, as, "breaks", 5, 2);
        Snapshot whole = new Snapshot(made(1));
        refused(1, whole, "scratch", 5, 3, 3);
        refused(1, whole, "breaks", 5, 3);
    }

    private static void noneThere() throws IllegalAccessException {
        Snapshot as = new Snapshot(made(1));
        refused(1, as, "undo", 6);
        refused(1, as, "shelf", 6);
        refused(1, as, "safest", 6, 0, 0, 3, true);
        refused(1, as, "safest", 6, 3, 3, 0, false);
        refused(1, as, "safestAt", 6, 0, 0, 3, 0);
        refused(1, as, "madeOf", 6, 0, -2, 1, -2, 2, true);
        refused(1, as, "madeOf", 6, 0, 0, 1, 0, 2, false);
        refused(1, as, "soonestAt", 1, 0, 3, 0);
        refused(1, as, "secretAt", 1, 0, 0, 3, 0);
        refused(1, as, "secretAt", 1, 0, 1, 1, 0);
        Snapshot full = new Snapshot(made(4));
        refused(4, full, "undo", 6);
        refused(4, full, "back", 1, 0);
    }

    private static void noRoom() throws IllegalAccessException {
        Snapshot as = new Snapshot(made(2));
        refused(2, as, "mark", 3);
        refused(3, new Snapshot(made(3)), "mark", 3);
    }

    /** A text with a fault takes the tape away, but nothing else. */
    private static void faults() {
        String[] texts = {"#", OTHER + ";corner c v", OTHER + ";word k xxx,xxx", "city wide 6", OTHER + ";shelf 1;shelf",
            "pane", "city wide 2 high 2 hail 1 ice 1", OTHER + ";pane t ice ooo", OTHER + ";pane t ice oo", "", OTHER + ";"};
        for (int state = 0; state <= 5; state++) {
            GlassPost other = made(state);
            Due.city(emptied(other), " ");
            Snapshot as = new Snapshot(other);
            for (String text : texts) {
                GlassPost g = emptied(made(state));
                String call = "city of " + text + " in state " + state;
                D.refused(g, call, Due.city(g, text), 4);
                D.due("the tape behind " + call, g.size(15), 0);
                D.due("where() behind " + call, g.where() >= 0 && g.where() <= text.length(), true);
                same(call, as, g);
            }
        }
    }

    /** The tape is emptied by a text with a fault: there is no other way that leaves the city. */
    private static GlassPost emptied(GlassPost g) {
        g.city(0);
        return g;
    }

    private static void fullTape() {
        Snapshot as = new Snapshot(made(4));
        GlassPost g = made(4);
        g.word(-1);
        D.due("feed", g.feed(0x23232323, 0x23232323, 0x23232323, 0x23232323, 0x23232323), -1);
        D.due("feed leaves trouble()", g.trouble(), 1);
        same("feed", as, g);
    }

    /** What is asked and answered changes nothing, either; trouble() tells 0 then. */
    private static void notRefused() throws IllegalAccessException {
        for (int state = 1; state <= 5; state++) {
            Snapshot as = new Snapshot(made(state));
            for (String line : CALLS) {
                String name = line.substring(0, line.indexOf(' '));
                String kinds = line.substring(line.indexOf(' ') + 1);
                boolean act = METHODS.get(name).getReturnType() == boolean.class || name.equals("mark");
                if (!act && !(name.equals("shelf") && state == 1)) {
                    GlassPost g = made(state);
                    g.word(-1);
                    String call = told(name, good(kinds)) + " in state " + state;
                    D.due(call + " is not refused", call(g, name, good(kinds)) != refusal(name), true);
                    D.due("trouble() behind " + call, g.trouble(), 0);
                    same(call, as, g);
                }
            }
            GlassPost g = made(state);
            g.fault();
            g.where();
            g.trouble();
            g.size(state);
            g.size(-1);
            ledOf(g, 0);
            ledOf(g, 99);
            same("calls of which no number is told, in state " + state, as, g);
        }
    }

    /** Whether it throws is no matter here. */
    private static void ledOf(GlassPost g, int i) {
        try {
            g.led(i);
        } catch (NoSuchElementException e) {
            D.due("led throws", e.getClass() == NoSuchElementException.class, true);
        }
    }

    private static void numbersOfTrouble() {
        D.says("IV", "TROUBLE of the latest call that may be refused (those of which a number is told here):");
        GlassPost g = made(2);
        g.word(-1);
        g.feed(1, 2, 3, 4, 5);
        g.fault();
        g.where();
        g.size(0);
        g.size(99);
        ledOf(g, 0);
        ledOf(g, 99);
        g.trouble();
        D.due("calls of which no number is told", g.trouble(), 1);
        D.says(51, "TROUBLE.");
        D.due("trouble() changes nothing", g.trouble(), 1);
        D.says("IV", "0 it wasn't;");
        g.word(0);
        D.due("word(0)", g.trouble(), 0);
        g.soonest(0, 3);
        D.due("-2 is no refusal", g.trouble(), 0);
        D.says("IV", "1 there is none such;");
        g.view(-2);
        D.due("view(-2)", g.trouble(), 1);
        D.says("IV", "2 a number;");
        g.left(65537, 0);
        D.due("left(65537, 0)", g.trouble(), 2);
        g.city(1101);
        D.due("city(1101)", g.trouble(), 2);
        D.says("IV", "3 no room;");
        g.mark();
        D.due("a fourth mark", g.trouble(), 3);
        D.says("IV", "5 not so;");
        g.breaks(3);
        D.due("a thick one", g.trouble(), 5);
        D.says("IV", "6 there is none.");
        g.safest(0, 0, 3, true);
        D.due("no way", g.trouble(), 6);
        D.says("IV", "4 a FAULT;");
        g.city(0);
        D.due("an empty text", g.trouble(), 4);
        D.due("where()", g.where(), 0);
        g.undo();
        D.due("the latest", g.trouble(), 0);
        D.says("constants", "`NONE = -1`: There is none; refused.");
        D.due("NONE", GlassPost.NONE, -1);
        D.due("refused", g.word(-1), GlassPost.NONE);
    }
}
