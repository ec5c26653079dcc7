import java.util.ArrayList;
import java.util.List;
import java.util.NoSuchElementException;

/** All that an object answers, but for trouble(), where() and fault(): two objects with like ones are alike. */
final class Snapshot {
    /** Answers of this many calls at most, so that an object stays within its 512 with what came before. */
    static final int MOST_CALLS = 400;

    private final GlassPost g;
    private final List<Long> answers = new ArrayList<>();
    private final List<String> calls = new ArrayList<>();

    /** The last calls are acts themselves: the object is used up. */
    Snapshot(GlassPost g) {
        this.g = g;
        sizes();
        panes();
        ways();
        made();
        shards();
        games();
        undoAll();
        backToMarks();
        tape();
        if (calls.size() > MOST_CALLS) {
            throw new IllegalStateException(calls.size() + " calls");
        }
    }

    /** The first call that answers otherwise, or nothing. */
    String unlike(Snapshot other) {
        if (calls.size() != other.calls.size()) {
            return "as many calls";
        }
        for (int i = 0; i < calls.size(); i++) {
            if (!answers.get(i).equals(other.answers.get(i))) {
                return calls.get(i) + " answers " + answers.get(i) + ", not " + other.answers.get(i);
            }
        }
        return "";
    }

    private void put(String call, long answer) {
        calls.add(call);
        answers.add(answer);
    }

    private void sizes() {
        for (int what = 0; what < 16; what++) {
            put("size " + what, g.size(what));
        }
        for (int i = 0; i < 4; i++) {
            long led = -99;
            try {
                led = g.led(i);
            } catch (NoSuchElementException e) {
                led = -98;
            }
            put("led " + i, led);
        }
    }

    private void panes() {
        for (int p = 0; p < 4; p++) {
            for (int what = 0; what < 5; what++) {
                put("pane " + p + " " + what, g.pane(p, what));
            }
            for (int v = -1; v < 2; v++) {
                put("seen " + p + " " + v, g.seen(p, v == -1 ? -2 : v));
                put("read " + p + " " + v, g.read(p, v == -1 ? -2 : v));
                put("viewsFor " + p, g.viewsFor(p, v + 1));
            }
            for (int q = p + 1; q < 4; q++) {
                put("together " + p + " " + q, g.together(p, q));
                put("readTogether " + p + " " + q, g.readTogether(q, p));
            }
        }
        for (int i = 0; i < 3; i++) {
            put("word " + i, g.word(i));
            put("view " + i, g.view(i));
            put("pairFor " + i, g.pairFor(i));
        }
    }

    private void ways() {
        for (int from = 0; from < 4; from++) {
            put("soonest " + from, g.soonest(from, 3 - from));
            put("soonest 0 " + from, g.soonest(0, from));
            put("soonestAt " + from, g.soonestAt(0, 2, from));
            put("secret " + from, g.secret(from, 0, 2));
            put("secretAt " + from, g.secretAt(from, 0, 2, 1));
            put("safest " + from, g.safest(from, 0, 2, false));
            put("safest lower " + from, g.safest(from, 0, 2, true));
            put("safestAt " + from, g.safestAt(from, 0, 2, 1));
        }
        for (int l = 0; l < 2; l++) {
            for (int what = 0; what < 4; what++) {
                put("sent " + l + " " + what, g.sent(l, what));
            }
            put("readers " + l, g.readers(l));
            put("overheard " + l, g.overheard(l));
        }
        put("unread", g.unread());
    }

    private void made() {
        for (int v = -1; v < 2; v++) {
            int view = v == -1 ? -2 : v;
            put("made " + v, g.made(0, view, 1, -2, 2));
            put("madeOf " + v, g.madeOf(0, view, 1, -2, 2, false));
            put("madeOf other " + v, g.madeOf(0, view, 1, -2, 2, true));
            for (int p = 0; p < 4; p++) {
                put("putty " + p + " " + v, g.putty(p, view));
                put("puttyOf " + p + " " + v, g.puttyOf(p, view));
                put("scratches " + p + " " + v, g.scratches(p, view, v + 1));
                put("could " + p + " " + v, g.could(p, view));
                put("gain " + p + " " + v, g.gain(p, view));
            }
        }
    }

    private void shards() {
        put("wholes", g.wholes());
        put("missing", g.missing());
        for (int i = 0; i < 3; i++) {
            put("whole " + i, g.whole(i));
            put("written " + i, g.written(i));
            put("wordOf " + i, g.wordOf(i));
            put("owner " + i, g.owner(i));
        }
    }

    private void games() {
        put("shelf", g.shelf());
        put("rests", g.rests());
        put("rest", g.rest());
        put("left", g.left(1, 1));
        put("left", g.left(7, 30));
        put("hails", g.hails(7, 99));
    }

    private void undoAll() {
        for (int i = 0; i <= 16; i++) {
            put("undo " + i, g.undo() ? 1 : 0);
            put("pane 0 behind undo " + i, g.pane(0, 1));
            put("pane 1 behind undo " + i, g.pane(1, 2));
        }
    }

    private void backToMarks() {
        for (int mark = 0; mark < 3; mark++) {
            put("back " + mark, g.back(mark) ? 1 : 0);
            for (int p = 0; p < 4; p++) {
                put("strokes by mark " + mark, g.pane(p, 1));
                put("putty by mark " + mark, g.pane(p, 2));
                put("broken by mark " + mark, g.pane(p, 3));
            }
        }
    }

    private void tape() {
        int length = g.size(15);
        put("city of the tape", g.city(length));
        put("its fault", g.fault());
        put("its place", g.where());
        put("its pane", g.pane(0, 1));
    }
}
