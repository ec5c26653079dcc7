import java.lang.management.ManagementFactory;

/** What a run makes is counted: an object makes its rows once, and no call makes anything. */
public final class RoomTest {
    private static final Due D = new Due("RoomTest");
    private static final int MOST_BYTES_OF_AN_OBJECT = 8192;
    private static final int RUNS = 2000;

    public static void main(String[] args) {
        com.sun.management.ThreadMXBean counter =
                (com.sun.management.ThreadMXBean) ManagementFactory.getThreadMXBean();
        long id = Thread.currentThread().getId();
        calls(made(), 1);
        long before = counter.getThreadAllocatedBytes(id);
        GlassPost g = made();
        long made = counter.getThreadAllocatedBytes(id) - before;
        D.due("an object with its city takes " + made + " bytes", made <= MOST_BYTES_OF_AN_OBJECT, true);
        before = counter.getThreadAllocatedBytes(id);
        for (int i = 0; i < RUNS; i++) {
            calls(g, i);
        }
        long taken = counter.getThreadAllocatedBytes(id) - before;
        D.due("2000 times all calls take " + taken + " bytes: less than an object each time", taken < 16 * RUNS, true);
        D.end();
    }

    private static final String TEXT = "city wide 5 high 4 hail 50 ice 9"
            + ";pane p plain xoxox,ooooo,xxxxx,ooooo;pane q thick ooooo,ooooo,ooooo,ooooo;pane r ice xxxxx,xxxxx,xxxxx,xxxxx"
            + ";word w xoxox,ooooo,xxxxx,ooooo;word e ooooo,ooooo,ooooo,ooooo;view v ooooo,ooooo,ooooo,xxxxx"
            + ";corner a v;corner b v;corner c v;street a b 3 breaks 5;street b c 4 breaks 50;street a c 9 breaks 1"
            + ";thief b;sent p a c;sent q a b;person n;shard n xoxox,mmmmm,ooooo,ooooo;shard n mmmmm,ooooo,mmmmm,mmmmm;shelf 30";
    private static final int[] FED = fed();

    private static int[] fed() {
        int[] numbers = new int[(TEXT.length() + 19) / 20 * 5];
        for (int i = 0; i < 4 * numbers.length; i++) {
            numbers[i / 4] = numbers[i / 4] << 8 | (i < TEXT.length() ? TEXT.charAt(i) : ' ');
        }
        return numbers;
    }

    private static GlassPost made() {
        GlassPost g = new GlassPost();
        tell(g);
        return g;
    }

    private static void tell(GlassPost g) {
        for (int i = 0; i < FED.length; i += 5) {
            g.feed(FED[i], FED[i + 1], FED[i + 2], FED[i + 3], FED[i + 4]);
        }
        g.city(TEXT.length());
    }

    private static void calls(GlassPost g, int i) {
        int p = i % 3;
        tell(g);
        g.fault();
        g.where();
        g.pane(p, i % 5);
        g.word(i % 2);
        g.view(0);
        g.seen(p, -2);
        g.read(p, 0);
        g.together(p, 0);
        g.readTogether(p, 1);
        g.viewsFor(p, 0);
        g.pairFor(0);
        g.soonest(0, 2);
        g.soonestAt(0, 2, 1);
        g.secret(p, 0, 2);
        g.secretAt(p, 0, 2, 1);
        g.safest(p, 0, 2, true);
        g.safestAt(p, 0, 2, 1);
        g.sent(0, 3);
        g.readers(0);
        g.overheard(0);
        g.unread();
        g.made(0, 0, 0, -2, 0);
        g.madeOf(0, 0, 0, -2, 0, true);
        g.putty(p, -2);
        g.puttyOf(p, 0);
        g.scratches(p, 0, 0);
        g.could(p, 0);
        g.wholes();
        g.whole(0);
        g.written(0);
        g.wordOf(0);
        g.owner(0);
        g.missing();
        g.shelf();
        g.gain(p, 0);
        g.rests();
        g.rest();
        g.left(i, 99);
        g.hails(i, 99);
        g.led(0);
        g.mark();
        for (int cell = 0; cell < 20; cell++) {
            g.scratch(p, cell);
            g.cover(p, cell);
        }
        g.breaks(p);
        g.undo();
        g.back(0);
        g.size(i % 17);
        g.trouble();
    }
}
