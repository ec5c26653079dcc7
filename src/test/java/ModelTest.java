import java.util.Random;

/** Random texts, cities, acts and questions, each answer against that of the model. */
public final class ModelTest {
    private static final Due D = new Due("ModelTest");
    private static final int TEXTS = 8000;
    private static final int CITIES = 900;
    private static final int CALLS = 90;

    private static Compare c;
    private static Random random;

    public static void main(String[] args) {
        texts();
        for (int seed = 1; seed <= CITIES; seed++) {
            city(seed);
        }
        D.end();
    }

    private static void texts() {
        int[] met = new int[8];
        for (int seed = 1; seed <= TEXTS; seed++) {
            CityMaker maker = new CityMaker(seed);
            String text = maker.text(20);
            String told = seed % 8 == 0 ? text : maker.spoilt(text);
            if (told.length() > 1100) {
                continue;
            }
            TextModel due = new TextModel(told);
            GlassPost x = new GlassPost();
            D.due("city of " + told, Due.city(x, told), due.fault == 0 ? due.many("pane") : -1);
            D.due("fault of " + told, x.fault(), due.fault);
            D.due("where of " + told, x.where(), due.where);
            met[due.fault]++;
        }
        for (int fault = 0; fault < 8; fault++) {
            D.due("fault " + fault + " is met often enough: " + met[fault], met[fault] > 100, true);
        }
    }

    private static void city(int seed) {
        String text;
        CityMaker maker = new CityMaker(1000000L + seed);
        do {
            text = maker.text(seed % 5 == 0 ? 10 : 6);
        } while (text.length() > 1100);
        c = new Compare(D, text);
        random = new Random(seed);
        c.sizes();
        for (int i = 0; i < CALLS; i++) {
            c.run = "city " + seed + " call " + i + " ";
            if (random.nextInt(6) == 0) {
                act();
            } else {
                ask();
            }
        }
    }

    /** Now and then a number that is one too many or too few. */
    private static int some(int many) {
        return random.nextInt(12) == 0 ? (random.nextBoolean() ? -1 : many) : random.nextInt(Math.max(many, 1));
    }

    private static int somePane() {
        return some(c.m.panes.size());
    }

    private static int someWord() {
        return some(c.m.words.size());
    }

    private static int someView() {
        return random.nextInt(3) == 0 ? -2 : some(c.m.views.size());
    }

    private static int someCorner() {
        return some(c.m.corners.size());
    }

    private static void act() {
        switch (random.nextInt(8)) {
            case 0:
            case 1: c.scratch(somePane(), some(c.m.cells)); break;
            case 2:
            case 3: c.cover(somePane(), some(c.m.cells)); break;
            case 4: c.breaks(somePane()); break;
            case 5: c.undo(); break;
            case 6: c.mark(); break;
            default: c.back(some(c.m.marks.size()));
        }
        c.sizes();
    }

    private static void ask() {
        switch (random.nextInt(10)) {
            case 0: c.panes(somePane(), someView()); break;
            case 1: c.pairs(somePane(), somePane()); break;
            case 2: c.words(somePane(), someWord(), someView()); break;
            case 3: c.pane(somePane(), some(5)); break;
            case 4: c.led(); break;
            case 5: c.ways(somePane(), someCorner(), someCorner(), random.nextInt(5) - 1); break;
            case 6: c.letter(some(c.m.letters.size())); c.unread(); break;
            case 7: c.made(new int[] {someWord(), someWord(), someWord()}, someView(), someView()); break;
            case 8: c.shards(some(c.m.wholes().size())); break;
            default: c.games(); c.days(random.nextInt(65537), random.nextInt(100));
        }
    }
}
