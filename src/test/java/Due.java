/** Counts answers against those that are due, and tells texts to an object. */
final class Due {
    /** A city of two by two cells that most tests begin with. */
    static final String HEAD = "city wide 2 high 2 hail 50 ice 2";

    private final String name;
    private int calls = 0;
    private int wrong = 0;

    Due(String name) {
        this.name = name;
    }

    void due(String call, long got, long want) {
        calls++;
        if (got != want) {
            wrong++;
            System.out.println(name + ": " + call + " answered " + got + ", due is " + want);
        }
    }

    void due(String call, boolean got, boolean want) {
        due(call, got ? 1 : 0, want ? 1 : 0);
    }

    /** An answer, and what trouble() tells behind it. */
    void told(GlassPost g, String call, long got, long want, int trouble) {
        due(call, got, want);
        due("trouble() behind " + call, g.trouble(), trouble);
    }

    void told(GlassPost g, String call, boolean got, boolean want, int trouble) {
        told(g, call, got ? 1 : 0, want ? 1 : 0, trouble);
    }

    void fine(GlassPost g, String call, long got, long want) {
        told(g, call, got, want, 0);
    }

    void refused(GlassPost g, String call, long got, int trouble) {
        told(g, call, got, GlassPost.NONE, trouble);
    }

    void noSuchLed(GlassPost g, int i) {
        boolean thrown = false;
        try {
            g.led(i);
        } catch (java.util.NoSuchElementException e) {
            thrown = true;
        }
        due("led(" + i + ") throws", thrown, true);
    }

    void end() {
        System.out.println(name + ": " + calls + " answers, " + wrong + " wrong");
        if (wrong != 0) {
            System.exit(1);
        }
    }

    static void feed(GlassPost g, String text) {
        for (int at = 0; at < text.length(); at += 20) {
            g.feed(four(text, at), four(text, at + 4), four(text, at + 8), four(text, at + 12), four(text, at + 16));
        }
    }

    private static int four(String text, int at) {
        int number = 0;
        for (int i = at; i < at + 4; i++) {
            number = number << 8 | (i < text.length() ? text.charAt(i) : ' ');
        }
        return number;
    }

    static int city(GlassPost g, String text) {
        feed(g, text);
        return g.city(text.length());
    }

    static GlassPost of(String text) {
        GlassPost g = new GlassPost();
        int panes = city(g, text);
        if (panes < 1) {
            throw new IllegalArgumentException("fault " + g.fault() + " at " + g.where() + " of " + text);
        }
        return g;
    }
}
