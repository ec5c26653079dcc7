/** Counts answers against those that are due, and tells texts to an object. */
final class Due {
    /** A city of two by two cells that most tests begin with. */
    static final String HEAD = "city wide 2 high 2 hail 50 ice 2";
    static final String SMALL = HEAD + ";pane p plain xo,ox";

    static final int LEAST = Integer.MIN_VALUE;
    static final int MOST = Integer.MAX_VALUE;

    private final String name;
    private String sentence = "";
    private int calls = 0;
    private int wrong = 0;

    Due(String name) {
        this.name = name;
    }

    /** The words of a promise that the answers behind it are due by; SentenceTest looks them up in the document. */
    void says(int promise, String words) {
        sentence = " [promise " + promise + ": " + words + "]";
    }

    /** Likewise of a term, I to IV, or of the constants. */
    void says(String term, String words) {
        sentence = " [" + term + ": " + words + "]";
    }

    void due(String call, long got, long want) {
        calls++;
        if (got != want) {
            wrong++;
            System.out.println(name + ": " + call + " answered " + got + ", due is " + want + sentence);
        }
    }

    void due(String call, boolean got, boolean want) {
        due(call, got ? 1 : 0, want ? 1 : 0);
    }

    /** An answer, and what trouble() tells behind it. */
    void told(GlassPost g, String call, long got, long want, int trouble) {
        due(call, got, want);
        due("trouble() behind " + call, g.trouble(), trouble);
    }

    void told(GlassPost g, String call, boolean got, boolean want, int trouble) {
        told(g, call, got ? 1 : 0, want ? 1 : 0, trouble);
    }

    void fine(GlassPost g, String call, long got, long want) {
        told(g, call, got, want, 0);
    }

    void refused(GlassPost g, String call, long got, int trouble) {
        told(g, call, got, GlassPost.NONE, trouble);
    }

    /** A text that has a fault where the sign ^ stands, which is no part of it; a city that stands is not touched. */
    void fault(int number, String marked) {
        int place = marked.indexOf('^');
        String text = marked.substring(0, place) + marked.substring(place + 1);
        GlassPost g = of(SMALL);
        g.scratch(0, 1);
        refused(g, "city of " + marked, city(g, text), 4);
        due("fault() of " + marked, g.fault(), number);
        due("where() of " + marked, g.where(), place);
        due("the tape behind " + marked, g.size(15), 0);
        due("acts behind " + marked, g.size(13), 1);
        due("panes behind " + marked, g.size(4), 1);
        due("strokes behind " + marked, g.pane(0, 1), 11);
    }

    /** A text that is taken; what it tells is for the caller to ask. */
    GlassPost good(String text, int panes) {
        GlassPost g = new GlassPost();
        fine(g, "city of " + text, city(g, text), panes);
        due("fault() of " + text, g.fault(), 0);
        due("where() of " + text, g.where(), GlassPost.NONE);
        return g;
    }

    void noSuchLed(GlassPost g, int i) {
        boolean thrown = false;
        try {
            g.led(i);
        } catch (java.util.NoSuchElementException e) {
            thrown = true;
        }
        due("led(" + i + ") throws", thrown, true);
    }

    void end() {
        System.out.println(name + ": " + calls + " answers, " + wrong + " wrong");
        if (wrong != 0) {
            System.exit(1);
        }
    }

    static void feed(GlassPost g, String text) {
        for (int at = 0; at < text.length(); at += 20) {
            g.feed(four(text, at), four(text, at + 4), four(text, at + 8), four(text, at + 12), four(text, at + 16));
        }
    }

    private static int four(String text, int at) {
        int number = 0;
        for (int i = at; i < at + 4; i++) {
            number = number << 8 | (i < text.length() ? text.charAt(i) : ' ');
        }
        return number;
    }

    static int city(GlassPost g, String text) {
        feed(g, text);
        return g.city(text.length());
    }

    static GlassPost of(String text) {
        GlassPost g = new GlassPost();
        int panes = city(g, text);
        if (panes < 1) {
            throw new IllegalArgumentException("fault " + g.fault() + " at " + g.where() + " of " + text);
        }
        return g;
    }
}
