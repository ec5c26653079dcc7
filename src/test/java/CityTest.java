/** Promises 1 to 5: a new object, feed, city, fault, where. */
public final class CityTest {
    private static final Due D = new Due("CityTest");
    private static final String SMALL = Due.HEAD + ";pane p plain xo,ox";
    private static final int BLANKS = 0x20202020;

    public static void main(String[] args) {
        newObject();
        feedCounts();
        feedOrder();
        numbers();
        tapeIsEmptyThen();
        cityStays();
        cityAnew();
        rowsAreUsedAgain();
        faultAndWhere();
        D.end();
    }

    private static void newObject() {
        GlassPost g = new GlassPost();
        D.due("trouble() of a new one", g.trouble(), 0);
        D.due("fault() of a new one", g.fault(), 0);
        D.due("where() of a new one", g.where(), -1);
        for (int what = 0; what <= 15; what++) {
            D.due("size(" + what + ") of a new one", g.size(what), 0);
        }
        D.noSuchLed(g, 0);
        D.refused(g, "pane", g.pane(0, 0), 1);
        D.refused(g, "word", g.word(0), 1);
        D.refused(g, "view", g.view(0), 1);
        D.refused(g, "seen", g.seen(0, -2), 1);
        D.refused(g, "read", g.read(0, -2), 1);
        D.refused(g, "together", g.together(0, 1), 1);
        D.refused(g, "readTogether", g.readTogether(0, 1), 1);
        D.refused(g, "viewsFor", g.viewsFor(0, 0), 1);
        D.refused(g, "pairFor", g.pairFor(0), 1);
        D.refused(g, "soonest", g.soonest(0, 0), 1);
        D.refused(g, "soonestAt", g.soonestAt(0, 0, 0), 1);
        D.refused(g, "secret", g.secret(0, 0, 0), 1);
        D.refused(g, "secretAt", g.secretAt(0, 0, 0, 0), 1);
        D.refused(g, "safest", g.safest(0, 0, 0, true), 1);
        D.refused(g, "safestAt", g.safestAt(0, 0, 0, 0), 1);
        D.refused(g, "sent", g.sent(0, 0), 1);
        D.refused(g, "readers", g.readers(0), 1);
        D.refused(g, "overheard", g.overheard(0), 1);
        D.refused(g, "unread", g.unread(), 1);
        D.refused(g, "made", g.made(0, -2, 0, -2, 0), 1);
        D.refused(g, "madeOf", g.madeOf(0, -2, 0, -2, 0, false), 1);
        D.refused(g, "putty", g.putty(0, -2), 1);
        D.refused(g, "puttyOf", g.puttyOf(0, -2), 1);
        D.refused(g, "scratches", g.scratches(0, -2, 0), 1);
        D.refused(g, "could", g.could(0, -2), 1);
        D.refused(g, "wholes", g.wholes(), 1);
        D.refused(g, "whole", g.whole(0), 1);
        D.refused(g, "written", g.written(0), 1);
        D.refused(g, "wordOf", g.wordOf(0), 1);
        D.refused(g, "owner", g.owner(0), 1);
        D.refused(g, "missing", g.missing(), 1);
        D.refused(g, "shelf", g.shelf(), 1);
        D.told(g, "gain", g.gain(0, -2), -100, 1);
        D.refused(g, "rests", g.rests(), 1);
        D.refused(g, "rest", g.rest(), 1);
        D.refused(g, "left", g.left(0, 0), 1);
        D.refused(g, "left of wrong numbers", g.left(-1, 100), 1);
        D.refused(g, "hails", g.hails(0, 0), 1);
        D.told(g, "scratch", g.scratch(0, 0), false, 1);
        D.told(g, "cover", g.cover(0, 0), false, 1);
        D.told(g, "breaks", g.breaks(0), false, 1);
        D.told(g, "undo", g.undo(), false, 6);
        D.refused(g, "mark", g.mark(), 1);
        D.told(g, "back", g.back(0), false, 1);
    }

    private static void feedCounts() {
        GlassPost g = new GlassPost();
        for (int i = 1; i <= 55; i++) {
            D.due("feed " + i, g.feed(BLANKS, BLANKS, BLANKS, BLANKS, BLANKS), 20 * i);
        }
        D.due("feed 56", g.feed(BLANKS, BLANKS, BLANKS, BLANKS, BLANKS), -1);
        D.due("size(15)", g.size(15), 1100);
        D.refused(g, "city(1101)", g.city(1101), 2);
        D.due("feed has no number of its own", g.feed(0, 0, 0, 0, 0), -1);
        D.due("trouble() is still city's", g.trouble(), 2);
        D.refused(g, "city(1100) of blanks", g.city(1100), 4);
        D.due("fault() at the end", g.fault(), 1);
        D.due("where() at the end", g.where(), 1100);
        D.due("feed again", g.feed(1, 2, 3, 4, 5), 20);
        D.due("where() stays with feed", g.where(), 1100);
    }

    /** The highest byte of each number comes first: else the words would not be read. */
    private static void feedOrder() {
        GlassPost g = new GlassPost();
        D.due("feed", g.feed(0x63697479, 0x20776964, 0x65203220, 0x68696768, 0x20322068), 20);
        D.refused(g, "city(16)", g.city(16), 4);
        D.due("fault()", g.fault(), 1);
        D.due("where()", g.where(), 16);
        g.feed(0x63697479, 0x20776964, 0x6520FF20, 0x68696768, 0x20322068);
        D.refused(g, "city(20)", g.city(20), 4);
        D.due("where() of byte 255", g.where(), 10);
        g.feed(0x63697479, 0x20776964, 0x6520E120, 0x68696768, 0x20322068);
        D.refused(g, "city(20)", g.city(20), 4);
        D.due("where() of a letter with the eighth bit", g.where(), 10);
    }

    private static void numbers() {
        GlassPost g = new GlassPost();
        Due.feed(g, SMALL);
        int fed = g.size(15);
        D.refused(g, "city(-1)", g.city(-1), 2);
        D.refused(g, "city of one too many", g.city(fed + 1), 2);
        D.refused(g, "city of the least number", g.city(Integer.MIN_VALUE), 2);
        D.refused(g, "city of the greatest number", g.city(Integer.MAX_VALUE), 2);
        D.due("the tape stays", g.size(15), fed);
        D.due("fault() without one", g.fault(), 0);
        D.fine(g, "city of all, blanks too", g.city(fed), 1);
        D.refused(g, "city(1) of an empty tape", g.city(1), 2);
    }

    private static void tapeIsEmptyThen() {
        GlassPost g = new GlassPost();
        Due.feed(g, SMALL + ";nonsense");
        D.fine(g, "city of the first bytes", g.city(SMALL.length()), 1);
        D.due("the rest is gone", g.size(15), 0);
        Due.feed(g, SMALL);
        D.refused(g, "city(0)", g.city(0), 4);
        D.due("where()", g.where(), 0);
        D.due("empty behind a fault", g.size(15), 0);
    }

    private static void cityStays() {
        GlassPost g = Due.of(SMALL + ";view v oo,ox;corner a v;corner b v;street a b 7 breaks 3;shelf 4");
        g.scratch(0, 1);
        g.mark();
        String other = "city wide 3 high 3 hail 1 ice 1;pane q thick xxx,xxx,xxx;pane r ice ooo,ooo,ooo;word";
        D.refused(g, "a city with a fault", Due.city(g, other), 4);
        D.due("wide stays", g.size(0), 2);
        D.due("panes stay", g.size(4), 1);
        D.due("an act stays", g.size(13), 1);
        D.due("a mark stays", g.size(14), 1);
        D.due("strokes stay", g.pane(0, 1), 11);
        D.due("kind stays", g.pane(0, 0), 0);
        D.due("streets stay", g.soonest(0, 1), 7);
        D.due("the shelf stays", g.shelf(), 1);
    }

    private static void cityAnew() {
        GlassPost g = Due.of(SMALL + ";view v oo,ox;corner a v;corner b v;street a b 7 breaks 3;thief a;shelf 4");
        g.scratch(0, 1);
        g.cover(0, 0);
        g.mark();
        g.breaks(0);
        D.fine(g, "the same panes anew", Due.city(g, SMALL + ";view v oo,oo;corner a v;corner b v"), 1);
        D.due("strokes as told", g.pane(0, 1), 9);
        D.due("putty as told", g.pane(0, 2), 0);
        D.due("not broken", g.pane(0, 3), 0);
        D.due("nothing to undo", g.size(13), 0);
        D.due("no marks", g.size(14), 0);
        D.told(g, "undo()", g.undo(), false, 6);
        D.told(g, "back(0)", g.back(0), false, 1);
        D.due("no street any more", g.soonest(0, 1), -2);
        D.due("no thief any more", g.size(9), 0);
        D.due("the view as told now", g.view(0), 0);
        D.refused(g, "no shelf any more", g.shelf(), 6);
        D.fine(g, "back to more panes", Due.city(g, SMALL + ";pane q ice oo,oo;pane r thick xx,xx"), 3);
        D.due("kind of the second", g.pane(1, 0), 2);
        D.due("kind of the third", g.pane(2, 0), 1);
    }

    /** Nothing of an older city, or of one with a fault, shows in a later one. */
    private static void rowsAreUsedAgain() {
        String town = SMALL + ";word w xo,ox;view v oo,oo;corner a v;corner b v";
        String full = town + ";street a b 7 breaks 3;thief a;sent p a b;person n;shard n xx,xx;shelf 4";
        GlassPost g = Due.of(full);
        for (int i = 0; i < 3; i++) {
            D.fine(g, "a city without streets", Due.city(g, town), 1);
            D.fine(g, "no way", g.soonest(0, 1), -2);
            D.fine(g, "no thief", g.secret(0, 0, 0), 0);
            D.due("no thieves", g.size(9), 0);
            D.due("no letters", g.size(10), 0);
            D.fine(g, "no shards", g.wholes(), 0);
            D.refused(g, "no shelf", g.shelf(), 6);
            D.refused(g, "a full city with a fault at its end", Due.city(g, full + ";"), 4);
            D.fine(g, "still no way", g.soonest(0, 1), -2);
            if (i == 1) {
                D.fine(g, "a full city", Due.city(g, full), 1);
                D.fine(g, "its way", g.soonest(0, 1), 7);
                D.fine(g, "its thief", g.secret(0, 0, 0), -2);
            }
        }
    }

    private static void faultAndWhere() {
        GlassPost g = new GlassPost();
        D.refused(g, "city(0)", g.city(0), 4);
        D.due("fault()", g.fault(), 1);
        D.due("where()", g.where(), 0);
        D.refused(g, "city(1)", g.city(1), 2);
        D.due("fault() of the latest not refused by 2", g.fault(), 1);
        D.due("where() behind 2", g.where(), -1);
        D.refused(g, "a word too long", Due.city(g, "pane p"), 4);
        D.due("fault()", g.fault(), 6);
        D.due("where()", g.where(), 0);
        D.due("size does not change where()", g.size(0) + g.where(), 0);
        D.noSuchLed(g, 0);
        D.due("led does not change where()", g.where(), 0);
        g.pane(0, 0);
        D.due("where() behind another refused call", g.where(), -1);
        D.due("fault() stays", g.fault(), 6);
        D.fine(g, "a good city", Due.city(g, SMALL), 1);
        D.due("fault() of a good city", g.fault(), 0);
        D.due("where() of a good city", g.where(), -1);
        D.refused(g, "a bad city", Due.city(g, SMALL + ";"), 4);
        D.due("where() at the end", g.where(), SMALL.length() + 1);
        g.seen(0, -2);
        D.due("where() behind a call that wasn't refused", g.where(), -1);
    }
}
