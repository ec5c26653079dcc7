/** The edges of promises 1 to 5, sentence by sentence: a new object, feed, city, fault, where; and the tape of term I. */
public final class EdgeTapeTest {
    private static final Due D = new Due("EdgeTapeTest");
    private static final String SMALL = Due.SMALL;
    private static final int[] OUTSIDE = {-1, -2, -20, Due.LEAST, Due.LEAST + 1, Due.MOST, Due.MOST - 1};
    private static final int BLANKS = 0x20202020;

    public static void main(String[] args) {
        noCityForQuestions();
        noCityForWays();
        noCityForTheRest();
        nothingIsToldYet();
        tapeHasRoom();
        comesBehind();
        highestFirst();
        tooMany();
        firstBytes();
        emptyThen();
        fromNowOn();
        asTold();
        howManyPanes();
        refusedByTwo();
        refusedByFour();
        faultOfTheLatest();
        withoutOne();
        itsPlace();
        placeElse();
        fiveHundredTwelve();
        D.end();
    }

    private static GlassPost anew() {
        return new GlassPost();
    }

    private static void none(GlassPost g, String call, long got) {
        D.refused(g, call + " without a city", got, 1);
        D.due("where() behind " + call, g.where(), -1);
        D.due("panes behind " + call, g.size(4), 0);
    }

    private static void noCityForQuestions() {
        D.says(1, "No CITY.");
        for (int i : new int[] {0, -1, -2, 1, Due.LEAST, Due.MOST}) {
            GlassPost g = anew();
            none(g, "pane", g.pane(i, 0));
            none(g = anew(), "word", g.word(i));
            none(g = anew(), "view", g.view(i));
            none(g = anew(), "seen", g.seen(i, -2));
            none(g = anew(), "read", g.read(i, -2));
            none(g = anew(), "together", g.together(0, i));
            none(g = anew(), "readTogether", g.readTogether(0, i));
            none(g = anew(), "viewsFor", g.viewsFor(0, i));
            none(g = anew(), "pairFor", g.pairFor(i));
            none(g = anew(), "made", g.made(i, -2, i, -2, i));
            none(g = anew(), "madeOf", g.madeOf(i, -2, i, -2, i, true));
            none(g = anew(), "putty", g.putty(i, -2));
            none(g = anew(), "puttyOf", g.puttyOf(i, -2));
            none(g = anew(), "scratches", g.scratches(i, -2, 0));
            none(g = anew(), "could", g.could(i, -2));
        }
    }

    private static void noCityForWays() {
        D.says(1, "No CITY.");
        for (int i : new int[] {0, -1, 1, Due.LEAST, Due.MOST}) {
            GlassPost g = anew();
            none(g, "soonest", g.soonest(i, i));
            none(g = anew(), "soonestAt", g.soonestAt(i, i, 0));
            none(g = anew(), "secret", g.secret(0, i, i));
            none(g = anew(), "secretAt", g.secretAt(0, i, i, 0));
            none(g = anew(), "safest", g.safest(0, i, i, false));
            none(g = anew(), "safestAt", g.safestAt(0, i, i, 0));
            none(g = anew(), "sent", g.sent(i, 0));
            none(g = anew(), "readers", g.readers(i));
            none(g = anew(), "overheard", g.overheard(i));
        }
        GlassPost g = anew();
        none(g, "unread", g.unread());
    }

    private static void noCityForTheRest() {
        D.says(1, "No CITY.");
        GlassPost g = anew();
        none(g, "wholes", g.wholes());
        none(g = anew(), "missing", g.missing());
        none(g = anew(), "shelf", g.shelf());
        none(g = anew(), "rests", g.rests());
        none(g = anew(), "rest", g.rest());
        none(g = anew(), "left", g.left(0, 0));
        none(g = anew(), "left of wrong numbers", g.left(-1, 100));
        none(g = anew(), "hails", g.hails(0, 0));
        none(g = anew(), "hails of wrong numbers", g.hails(65537, -1));
        none(g = anew(), "mark", g.mark());
        for (int i : new int[] {0, -1, 1, Due.LEAST, Due.MOST}) {
            none(g = anew(), "whole", g.whole(i));
            none(g = anew(), "written", g.written(i));
            none(g = anew(), "wordOf", g.wordOf(i));
            none(g = anew(), "owner", g.owner(i));
            g = anew();
            D.told(g, "gain", g.gain(i, -2), -100, 1);
            D.told(g, "scratch", g.scratch(i, 0), false, 1);
            D.told(g, "cover", g.cover(i, 0), false, 1);
            D.told(g, "breaks", g.breaks(i), false, 1);
            D.told(g, "undo", g.undo(), false, 6);
            D.told(g, "back", g.back(i), false, 1);
            D.noSuchLed(g, i);
        }
    }

    private static void nothingIsToldYet() {
        D.says(1, "No CITY.");
        GlassPost g = anew();
        D.due("trouble() of a new one", g.trouble(), 0);
        D.due("fault() of a new one", g.fault(), 0);
        D.due("where() of a new one", g.where(), -1);
        for (int what = 0; what <= 15; what++) {
            D.due("size(" + what + ") of a new one", g.size(what), 0);
        }
        D.refused(g, "city(1) of an empty tape", g.city(1), 2);
        D.refused(g, "city(0) of an empty tape", g.city(0), 4);
        D.due("fault() of an empty text", g.fault(), 1);
        D.due("where() of an empty text", g.where(), 0);
        D.due("still no city", g.size(0), 0);
        GlassPost other = anew();
        D.due("objects share nothing", Due.city(g, SMALL) + other.size(4), 1);
    }

    /** The last row ends with the last byte: one byte less, and it is too short. */
    private static String upToTheLastByte() {
        String end = ";pane q thick xx,ox";
        return SMALL + " ".repeat(1100 - SMALL.length() - end.length()) + end;
    }

    private static void tapeHasRoom() {
        D.says("I", "THE TEXT of a CITY (THE TAPE has 1,100 bytes");
        GlassPost g = anew();
        Due.feed(g, upToTheLastByte());
        D.due("it is full", g.size(15), 1100);
        D.due("no byte comes", g.feed(BLANKS, BLANKS, BLANKS, BLANKS, BLANKS), -1);
        D.fine(g, "city(1100)", g.city(1100), 2);
        D.due("the last byte is read", g.pane(1, 1), 1 | 2 | 8);
        Due.feed(g, upToTheLastByte());
        D.refused(g, "city(1101)", g.city(1101), 2);
        D.refused(g, "city(1099)", g.city(1099), 4);
        D.due("a row is too short by one", g.fault(), 7);
        D.due("where the row is", g.where(), 1098);
        D.due("there is room again", g.feed(BLANKS, BLANKS, BLANKS, BLANKS, BLANKS), 20);
    }

    private static void comesBehind() {
        D.says(2, "Twenty bytes come behind THE TAPE");
        GlassPost g = anew();
        String text = "city wide 3 high 2 hail 7 ice 60;pane one thick xox,oxx;pane two ice ooo,ooo";
        Due.feed(g, text);
        D.due("bytes", g.size(15), 80);
        D.fine(g, "city", g.city(text.length()), 2);
        D.due("wide", g.size(0), 3);
        D.due("ice", g.size(3), 60);
        D.due("strokes", g.pane(0, 1), 1 | 4 | 16 | 32);
        D.says(2, "how many it has");
        for (int i = 1; i <= 55; i++) {
            D.due("feed " + i, g.feed(i, -i, Due.LEAST, Due.MOST, 0), 20 * i);
            D.due("size(15) behind feed " + i, g.size(15), 20 * i);
        }
    }

    /** A text in which each of the twenty bytes that come is another one is read only in one order. */
    private static void highestFirst() {
        D.says(2, "of each number the highest first");
        GlassPost g = anew();
        g.feed(0x63697479, 0x20776964, 0x65203320, 0x68696768, 0x20322068);
        g.feed(0x61696C20, 0x37206963, 0x65203539, 0x3B70616E, 0x65206120);
        g.feed(0x69636520, 0x786F6F2C, 0x6F6F7820, 0x20202020, 0x20202020);
        D.fine(g, "city(51)", g.city(51), 1);
        D.due("wide", g.size(0), 3);
        D.due("high", g.size(1), 2);
        D.due("hail", g.size(2), 7);
        D.due("ice", g.size(3), 59);
        D.due("strokes", g.pane(0, 1), 1 | 32);
        for (int sign : new int[] {0x80, 0xE3, 0xFF, 0x00}) {
            g.feed(0x63697479, sign << 24 | 0x776964, 0x65203320, 0x68696768, 0x20322068);
            D.refused(g, "a byte of " + sign, g.city(20), 4);
            D.due("where() of a byte of " + sign, g.where(), 4);
            D.due("fault() of a byte of " + sign, g.fault(), 1);
        }
    }

    private static void tooMany() {
        D.says(2, "NONE, and none comes, if there would be more than 1,100.");
        GlassPost g = anew();
        Due.feed(g, SMALL);
        for (int fed = (SMALL.length() + 19) / 20 * 20; fed < 1080; fed += 20) {
            g.feed(BLANKS, BLANKS, BLANKS, BLANKS, BLANKS);
        }
        D.due("room for twenty more", g.size(15), 1080);
        D.due("the last that come", g.feed(BLANKS, BLANKS, BLANKS, BLANKS, 0x20202023), 1100);
        for (int i = 0; i < 3; i++) {
            D.due("no more", g.feed(0x23232323, 0x23232323, 0x23232323, 0x23232323, 0x23232323), -1);
            D.due("none came", g.size(15), 1100);
        }
        D.due("feed leaves trouble()", g.trouble(), 0);
        D.refused(g, "the last byte is as it was fed", g.city(1100), 4);
        D.due("where()", g.where(), 1099);
        Due.feed(g, SMALL + " ".repeat(1100 - SMALL.length()));
        D.due("full again", g.feed(0x23232323, 0, 0, 0, 0), -1);
        D.fine(g, "the first bytes are as they were fed", g.city(1100), 1);
        D.due("strokes", g.pane(0, 1), 9);
    }

    private static void firstBytes() {
        D.says(3, "The first n bytes of THE TAPE");
        String text = Due.HEAD + ";pane p plain xo,oxx#";
        GlassPost g = anew();
        Due.feed(g, text);
        D.fine(g, "no byte behind them", g.city(text.length() - 2), 1);
        Due.feed(g, text);
        D.refused(g, "one byte more", g.city(text.length() - 1), 4);
        D.due("a row too long", g.fault(), 7);
        Due.feed(g, text);
        D.refused(g, "one byte less", g.city(text.length() - 3), 4);
        D.due("a row too short", g.fault(), 7);
        Due.feed(g, text);
        D.refused(g, "up to the comma", g.city(text.length() - 4), 4);
        D.due("no row there", g.fault(), 1);
        D.due("at the end", g.where(), text.length() - 4);
        Due.feed(g, text);
        D.refused(g, "one row", g.city(text.length() - 5), 4);
        D.due("rows too few", g.fault(), 6);
        D.due("at the end", g.where(), text.length() - 5);
        Due.feed(g, text);
        D.refused(g, "the first 0 bytes", g.city(0), 4);
        D.due("nothing is no city", g.fault(), 1);
        D.due("at its end", g.where(), 0);
    }

    private static void emptyThen() {
        D.says(3, "(it is empty then)");
        GlassPost g = anew();
        Due.feed(g, SMALL + ";nonsense and much more behind");
        D.fine(g, "city of the first bytes", g.city(SMALL.length()), 1);
        D.due("the rest is gone", g.size(15), 0);
        D.refused(g, "city(1)", g.city(1), 2);
        Due.feed(g, SMALL);
        D.due("what comes is first", g.size(15), (SMALL.length() + 19) / 20 * 20);
        D.fine(g, "and is read from the beginning", g.city(SMALL.length()), 1);
        Due.feed(g, SMALL);
        D.refused(g, "city(0)", g.city(0), 4);
        D.due("empty behind a fault, too", g.size(15), 0);
    }

    private static void fromNowOn() {
        D.says(3, "are the CITY from now on");
        GlassPost g = Due.of(Full.CITY);
        int[] most = {2, 2, 50, 2, 8, 8, 6, 7, 12, 7, 6, 4, 8, 0, 0, 0};
        for (int what = 0; what < 16; what++) {
            D.due("size(" + what + ")", g.size(what), most[what]);
        }
        D.fine(g, "another city", Due.city(g, "city wide 5 high 4 hail 0 ice 1;pane p ice xoooo,ooooo,ooooo,oooox"), 1);
        int[] least = {5, 4, 0, 1, 1, 0, 0, 0, 0, 0, 0, 0, 0, 0, 0, 0};
        for (int what = 0; what < 16; what++) {
            D.due("size(" + what + ")", g.size(what), least[what]);
        }
        D.refused(g, "no pane 1", g.pane(1, 0), 1);
        D.refused(g, "no word 0", g.word(0), 1);
        D.refused(g, "no view 0", g.view(0), 1);
        D.refused(g, "no corner 0", g.soonest(0, 0), 1);
        D.refused(g, "no letter 0", g.sent(0, 0), 1);
        D.refused(g, "no shelf", g.shelf(), 6);
        D.fine(g, "no wholes", g.wholes(), 0);
        D.fine(g, "all cells lack", g.missing(), Full.ALL);
        D.fine(g, "the first city again", Due.city(g, Full.CITY), 8);
        for (int what = 0; what < 16; what++) {
            D.due("size(" + what + ")", g.size(what), most[what]);
        }
    }

    private static void asTold() {
        D.says(3, "(panes as told; nothing to undo, no MARKS)");
        GlassPost g = Due.of(Full.CITY);
        for (int cell = 0; cell < 4; cell++) {
            g.scratch(7, cell);
            g.cover(7, cell);
        }
        g.mark();
        g.mark();
        g.breaks(0);
        g.breaks(7);
        g.mark();
        D.due("acts", g.size(13), 10);
        D.due("marks", g.size(14), 3);
        D.fine(g, "the same city anew", Due.city(g, Full.CITY), 8);
        int[] strokes = {1, 2, 4, 8, 3, 12, 15, 0};
        int[] kinds = {0, 1, 2, 0, 0, 0, 1, 2};
        for (int p = 0; p < 8; p++) {
            D.fine(g, "kind of " + p, g.pane(p, 0), kinds[p]);
            D.fine(g, "strokes of " + p, g.pane(p, 1), strokes[p]);
            D.fine(g, "putty of " + p, g.pane(p, 2), 0);
            D.fine(g, "broken is " + p, g.pane(p, 3), 0);
        }
        D.due("nothing to undo", g.size(13), 0);
        D.told(g, "undo()", g.undo(), false, 6);
        D.due("no marks", g.size(14), 0);
        D.told(g, "back(0)", g.back(0), false, 1);
        D.fine(g, "the first mark again", g.mark(), 0);
        D.fine(g, "the second", g.mark(), 1);
        D.fine(g, "the third", g.mark(), 2);
        D.refused(g, "no fourth", g.mark(), 3);
    }

    private static void howManyPanes() {
        D.says(3, "how many panes");
        StringBuilder text = new StringBuilder(Due.HEAD);
        for (int i = 1; i <= 8; i++) {
            text.append(";pane ").append((char) ('a' + i)).append(" ice xo,ox");
            GlassPost g = D.good(text.toString(), i);
            D.due("size(4)", g.size(4), i);
            D.fine(g, "the last pane", g.pane(i - 1, 0), 2);
            D.refused(g, "none behind it", g.pane(i, 0), 1);
        }
    }

    private static void refusedByTwo() {
        D.says(3, "NONE: 2 (THE TAPE stays)");
        GlassPost g = anew();
        Due.feed(g, SMALL);
        int fed = g.size(15);
        for (int n : OUTSIDE) {
            D.refused(g, "city(" + n + ")", g.city(n), 2);
            D.due("where() behind city(" + n + ")", g.where(), -1);
            D.due("the tape behind city(" + n + ")", g.size(15), fed);
        }
        for (int n : new int[] {fed + 1, fed + 20, 1100, 1101}) {
            D.refused(g, "city(" + n + ")", g.city(n), 2);
            D.due("the tape behind city(" + n + ")", g.size(15), fed);
        }
        D.due("no fault", g.fault(), 0);
        D.due("no city yet", g.size(4), 0);
        D.fine(g, "all that is there", g.city(fed), 1);
        g.scratch(0, 2);
        g.mark();
        D.refused(g, "city(1)", g.city(1), 2);
        D.due("the city stays, too", g.pane(0, 1), 9 | 4);
        D.due("acts stay", g.size(13), 1);
        D.due("marks stay", g.size(14), 1);
    }

    /** At each place of a text that is cut off there is a fault or a city: the one that stood stays, or goes. */
    private static void refusedByFour() {
        D.says(3, "4 (the CITY stays).");
        String other = "city wide 3 high 3 hail 1 ice 1;pane q thick xxx,xxx,xxx;view v ooo,ooo,ooo;corner a v;corner b v"
                + ";street a b 5 breaks 5;thief b;sent q a b;person n;shard n xxx,xxx,xxx;shelf 3;word";
        GlassPost g = Due.of(SMALL + ";word w xo,ox;view v oo,ox;corner a v;corner b v;street a b 7 breaks 3;shelf 4");
        g.scratch(0, 1);
        g.mark();
        g.cover(0, 3);
        for (int i = 0; i < 3; i++) {
            D.refused(g, "a city with a fault at its end", Due.city(g, other), 4);
            D.due("the tape is empty", g.size(15), 0);
            int[] sizes = {2, 2, 50, 2, 1, 1, 1, 2, 1, 0, 0, 0, 0, 2, 1, 0};
            for (int what = 0; what < 16; what++) {
                D.due("size(" + what + ") stays", g.size(what), sizes[what]);
            }
            D.fine(g, "kind stays", g.pane(0, 0), 0);
            D.fine(g, "strokes stay", g.pane(0, 1), 11);
            D.fine(g, "putty stays", g.pane(0, 2), 8);
            D.fine(g, "the word stays", g.word(0), 9);
            D.fine(g, "the view stays", g.view(0), 8);
            D.fine(g, "the street stays", g.soonest(0, 1), 7);
            D.fine(g, "no thief", g.secret(0, 0, 1), 7);
            D.fine(g, "the shelf stays", g.shelf(), 1);
            D.fine(g, "no shard", g.wholes(), 0);
        }
        D.told(g, "the latest act can be undone", g.undo(), true, 0);
        D.fine(g, "strokes", g.pane(0, 1), 11);
        D.told(g, "the mark stays", g.back(0), true, 0);
    }

    private static void faultOfTheLatest() {
        D.says(4, "The FAULT of the latest city() not refused by 2");
        String[] texts = {"#", Due.HEAD + ";corner c v", SMALL + ";word p xo,ox", "city wide 6",
            Full.CITY + ";word", "pane", Due.HEAD + ";pane p plain oxo"};
        GlassPost g = anew();
        for (int number = 1; number <= 7; number++) {
            D.refused(g, "a text with fault " + number, Due.city(g, texts[number - 1]), 4);
            D.due("fault()", g.fault(), number);
            D.refused(g, "city(-1)", g.city(-1), 2);
            D.refused(g, "city(1)", g.city(1), 2);
            D.due("fault() behind 2", g.fault(), number);
            g.pane(0, 0);
            g.feed(1, 2, 3, 4, 5);
            D.due("fault() behind other calls", g.fault(), number);
            D.refused(g, "the tape is not the text any more", g.city(0), 4);
            D.due("fault() of the later one", g.fault(), 1);
        }
    }

    private static void withoutOne() {
        D.says(4, "0 without one.");
        GlassPost g = anew();
        D.due("fault() ahead of all", g.fault(), 0);
        g.city(5);
        D.due("fault() behind 2", g.fault(), 0);
        D.fine(g, "a good one", Due.city(g, SMALL), 1);
        D.due("fault()", g.fault(), 0);
        D.refused(g, "a bad one", Due.city(g, SMALL + "#"), 4);
        D.due("fault()", g.fault(), 1);
        D.fine(g, "a good one", Due.city(g, SMALL), 1);
        D.due("fault()", g.fault(), 0);
    }

    private static void itsPlace() {
        D.says(5, "Its place, if the latest call that may be refused was by 4");
        GlassPost g = anew();
        D.refused(g, "at 0", Due.city(g, "#"), 4);
        D.due("where()", g.where(), 0);
        String blanks = " ".repeat(1099);
        D.refused(g, "at 1099", Due.city(g, blanks + "#"), 4);
        D.due("where()", g.where(), 1099);
        D.refused(g, "at the end of all", Due.city(g, blanks + " "), 4);
        D.due("where()", g.where(), 1100);
        D.due("where() again", g.where(), 1100);
        g.fault();
        g.size(0);
        g.size(99);
        g.trouble();
        g.feed(1, 2, 3, 4, 5);
        D.noSuchLed(g, 0);
        D.due("where() behind calls of which no number is told", g.where(), 1100);
        D.due("trouble(), too", g.trouble(), 4);
    }

    private static void placeElse() {
        D.says(5, "NONE else.");
        GlassPost g = anew();
        D.due("where() ahead of all", g.where(), -1);
        Due.city(g, SMALL + ";");
        D.due("where()", g.where(), SMALL.length() + 1);
        g.city(1);
        D.due("where() behind 2", g.where(), -1);
        Due.city(g, SMALL + ";");
        g.word(0);
        D.due("where() behind 1", g.where(), -1);
        Due.city(g, SMALL + ";");
        g.undo();
        D.due("where() behind 6", g.where(), -1);
        D.due("but the fault is the latest city()'s", g.fault(), 1);
        Due.city(g, SMALL);
        D.due("where() of a good one", g.where(), -1);
        Due.city(g, SMALL + ";");
        g.pane(0, 0);
        D.due("where() behind a call that wasn't refused", g.where(), -1);
        Due.city(g, SMALL + ";");
        g.breaks(0);
        D.due("where() behind an act", g.where(), -1);
        Due.city(g, SMALL + ";");
        g.breaks(0);
        D.due("where() behind 5", g.where(), -1);
    }

    private static void fiveHundredTwelve() {
        D.says("use", "An object is used for at most 512 calls after it has been made");
        GlassPost g = anew();
        int calls = 0;
        for (int i = 0; i < SMALL.length(); i += 20) {
            calls++;
        }
        Due.feed(g, SMALL);
        D.due("city", g.city(SMALL.length()), 1);
        calls++;
        for (; calls < 510; calls += 2) {
            D.due("scratch", g.scratch(0, 1), true);
            D.due("undo", g.undo(), true);
        }
        for (; calls < 511; calls++) {
            D.due("scratch", g.scratch(0, 1), true);
        }
        D.due("the 512th call", g.pane(0, 1), 11);
    }
}
