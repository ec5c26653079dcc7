import java.util.NoSuchElementException;

/** Letters of glass in a city told as a text; the document's promises say what each call answers. */
public final class GlassPost {
    public static final int NONE = -1;

    /** Answers "none, and not refused"; as an argument it stands for no view. */
    private static final int NOTHING = -2;
    private static final int NO_GAIN = -100;

    private static final int FINE = 0;
    private static final int NO_SUCH = 1;
    private static final int BAD_NUMBER = 2;
    private static final int NO_ROOM = 3;
    private static final int FAULTY = 4;
    private static final int NOT_SO = 5;
    private static final int NO_ONE = 6;

    private static final int MOST_DAYS = 99;
    private static final int MOST_SEED = 65536;

    private final Tape tape;
    private final Parser parser;
    private final Panes panes;
    private final Ways ways;
    private final Twins twins;
    private final Hail weather;
    private City told;
    private City spare;
    private int troubleNumber;
    private int faultNumber;
    private int faultPlace;

    public GlassPost() {
        tape = new Tape();
        told = new City();
        spare = new City();
        parser = new Parser(tape, spare);
        panes = new Panes(told);
        ways = new Ways(told);
        twins = new Twins();
        weather = new Hail();
        troubleNumber = FINE;
        faultNumber = 0;
        faultPlace = NONE;
    }

    // ---- the city

    public int feed(int a, int b, int c, int d, int e) {
        if (!tape.hasRoom()) {
            return NONE;
        }
        tape.put(a);
        tape.put(b);
        tape.put(c);
        tape.put(d);
        tape.put(e);
        return tape.length;
    }

    public int city(int n) {
        if (n < 0 || n > tape.length) {
            return refuse(BAD_NUMBER);
        }
        boolean good = parser.parse(n, spare);
        tape.length = 0;
        faultNumber = parser.fault;
        faultPlace = parser.place;
        if (!good) {
            return refuse(FAULTY);
        }
        City before = told;
        told = spare;
        spare = before;
        panes.begin(told);
        return answer(told.count[City.PANE]);
    }

    public int fault() {
        return faultNumber;
    }

    public int where() {
        return troubleNumber == FAULTY ? faultPlace : NONE;
    }

    // ---- panes

    public int pane(int p, int what) {
        if (!isPane(p)) {
            return refuse(NO_SUCH);
        }
        switch (what) {
            case 0: return answer(told.kind[p]);
            case 1: return answer(panes.strokes[p]);
            case 2: return answer(panes.putty[p]);
            case 3: return answer(panes.isBroken(p) ? 1 : 0);
            case 4: return answer(panes.light(p));
            default: return refuse(NO_SUCH);
        }
    }

    public int word(int w) {
        return isWord(w) ? answer(told.word[w]) : refuse(NO_SUCH);
    }

    public int view(int v) {
        return isView(v) ? answer(told.dark[v]) : refuse(NO_SUCH);
    }

    public int seen(int p, int view) {
        int why = whyNot(p, isSight(view));
        return why == FINE ? answer(panes.seenBits(p, view)) : refuse(why);
    }

    public int read(int p, int view) {
        int why = whyNot(p, isSight(view));
        return why == FINE ? answer(panes.wordRead(p, view)) : refuse(why);
    }

    public int together(int p, int q) {
        int why = whyNotBoth(p, q);
        return why == FINE ? answer(panes.laidTogether(p, q)) : refuse(why);
    }

    public int readTogether(int p, int q) {
        int why = whyNotBoth(p, q);
        return why == FINE ? answer(told.firstWord(panes.laidTogether(p, q))) : refuse(why);
    }

    public int viewsFor(int p, int word) {
        int why = whyNot(p, isWord(word));
        if (why != FINE) {
            return refuse(why);
        }
        int bits = 0;
        for (int v = 0; v < told.count[City.VIEW]; v++) {
            if (panes.wordRead(p, v) == word) {
                bits |= 1 << v;
            }
        }
        return answer(bits);
    }

    public int pairFor(int word) {
        return isWord(word) ? answer(panes.firstPair(told.word[word])) : refuse(NO_SUCH);
    }

    // ---- ways

    public int soonest(int from, int to) {
        if (!isCorner(from) || !isCorner(to)) {
            return refuse(NO_SUCH);
        }
        return answer(soonestMinutes(from, to, 0));
    }

    public int soonestAt(int from, int to, int i) {
        if (!isCorner(from) || !isCorner(to)) {
            return refuse(NO_SUCH);
        }
        ways.goSoonest(told, from, to, 0);
        return cornerOfWay(i);
    }

    public int secret(int p, int from, int to) {
        int why = whyNot(p, isCorner(from) && isCorner(to));
        return why == FINE ? answer(soonestMinutes(from, to, panes.readingCorners(p))) : refuse(why);
    }

    public int secretAt(int p, int from, int to, int i) {
        int why = whyNot(p, isCorner(from) && isCorner(to));
        if (why != FINE) {
            return refuse(why);
        }
        ways.goSoonest(told, from, to, panes.readingCorners(p));
        return cornerOfWay(i);
    }

    public long safest(int p, int from, int to, boolean lower) {
        int why = whyNotSafest(p, from, to);
        if (why != FINE) {
            return refuse(why);
        }
        troubleNumber = FINE;
        long common = Ways.greatestDivisor(ways.worth, Ways.SURE);
        return (lower ? Ways.SURE : ways.worth) / common;
    }

    public int safestAt(int p, int from, int to, int i) {
        int why = whyNotSafest(p, from, to);
        return why == FINE ? cornerOfWay(i) : refuse(why);
    }

    // ---- the plan

    public int sent(int l, int what) {
        if (!isLetter(l)) {
            return refuse(NO_SUCH);
        }
        switch (what) {
            case 0: return answer(told.letterPane[l]);
            case 1: return answer(told.letterFrom[l]);
            case 2: return answer(told.letterTo[l]);
            case 3: return answer(soonestMinutes(told.letterFrom[l], told.letterTo[l], 0));
            default: return refuse(NO_SUCH);
        }
    }

    public int readers(int l) {
        return isLetter(l) ? answer(readersOf(l)) : refuse(NO_SUCH);
    }

    public int overheard(int l) {
        if (!isLetter(l)) {
            return refuse(NO_SUCH);
        }
        int corners = readersOf(l);
        int words = 0;
        for (int c = 0; c < told.count[City.CORNER]; c++) {
            if ((corners >> c & 1) != 0) {
                words |= 1 << panes.wordRead(told.letterPane[l], told.viewAt[c]);
            }
        }
        return answer(words);
    }

    public int unread() {
        if (noCity()) {
            return refuse(NO_SUCH);
        }
        int letters = 0;
        for (int l = 0; l < told.count[City.SENT]; l++) {
            if (readersOf(l) == 0) {
                letters |= 1 << l;
            }
        }
        return answer(letters);
    }

    // ---- made panes

    public int made(int first, int view, int second, int other, int third) {
        int why = whyNotMade(first, view, second, other, third);
        if (why == NO_SUCH) {
            return refuse(NO_SUCH);
        }
        return answer(why == FINE ? twins.strokes() : NOTHING);
    }

    public int madeOf(int first, int view, int second, int other, int third, boolean otherOne) {
        int why = whyNotMade(first, view, second, other, third);
        if (why != FINE) {
            return refuse(why);
        }
        return answer(otherOne ? twins.other : twins.one);
    }

    public int putty(int p, int view) {
        int why = whyNot(p, isSight(view));
        if (why != FINE) {
            return refuse(why);
        }
        int cells = panes.leastPutty(p, view);
        return answer(cells == NOTHING ? NOTHING : Integer.bitCount(cells));
    }

    public int puttyOf(int p, int view) {
        int why = whyNot(p, isSight(view));
        if (why != FINE) {
            return refuse(why);
        }
        int cells = panes.leastPutty(p, view);
        return answer(cells == NOTHING ? 0 : cells);
    }

    public int scratches(int p, int view, int word) {
        int why = whyNot(p, isSight(view) && isWord(word));
        return why == FINE ? answer(panes.fewestScratches(p, view, word)) : refuse(why);
    }

    public int could(int p, int view) {
        int why = whyNot(p, isSight(view));
        if (why != FINE) {
            return refuse(why);
        }
        int words = 0;
        for (int w = 0; w < told.count[City.WORD]; w++) {
            if (panes.fewestScratches(p, view, w) != NOTHING) {
                words |= 1 << w;
            }
        }
        return answer(words);
    }

    // ---- shards

    public int wholes() {
        return noCity() ? refuse(NO_SUCH) : answer(told.countWholes());
    }

    public int whole(int i) {
        int set = told.wholeAt(i);
        return set == 0 ? refuse(NO_SUCH) : answer(set);
    }

    public int written(int i) {
        int set = told.wholeAt(i);
        return set == 0 ? refuse(NO_SUCH) : answer(told.strokesOfShards(set));
    }

    public int wordOf(int i) {
        int set = told.wholeAt(i);
        return set == 0 ? refuse(NO_SUCH) : answer(told.firstWord(told.strokesOfShards(set)));
    }

    public int owner(int i) {
        int set = told.wholeAt(i);
        return set == 0 ? refuse(NO_SUCH) : answer(told.ownerOfMost(set));
    }

    public int missing() {
        return noCity() ? refuse(NO_SUCH) : answer(told.cellsWithoutShard());
    }

    // ---- the shelf, a game, hail

    public int shelf() {
        if (noCity()) {
            return refuse(NO_SUCH);
        }
        if (told.count[City.SHELF] == 0) {
            return refuse(NO_ONE);
        }
        return answer(panes.bestForShelf());
    }

    public int gain(int p, int view) {
        int why = whyNot(p, isSight(view));
        if (why != FINE) {
            refuse(why);
            return NO_GAIN;
        }
        return answer(panes.writerHas(p, view));
    }

    public int rests() {
        if (noCity()) {
            return refuse(NO_SUCH);
        }
        int many = 0;
        for (int p = 0; p < told.count[City.PANE]; p++) {
            for (int choice = 0; choice <= told.count[City.VIEW]; choice++) {
                if (panes.isRest(p, choice)) {
                    many++;
                }
            }
        }
        return answer(many);
    }

    public int rest() {
        if (noCity()) {
            return refuse(NO_SUCH);
        }
        for (int p = 0; p < told.count[City.PANE]; p++) {
            for (int choice = 0; choice <= told.count[City.VIEW]; choice++) {
                if (panes.isRest(p, choice)) {
                    return answer(10 * p + choice);
                }
            }
        }
        return answer(NOTHING);
    }

    public int left(int seed, int n) {
        int why = whyNoDays(seed, n);
        if (why != FINE) {
            return refuse(why);
        }
        weather.pass(told, panes.unbroken(), seed, n);
        return answer(weather.remaining);
    }

    public int hails(int seed, int n) {
        int why = whyNoDays(seed, n);
        if (why != FINE) {
            return refuse(why);
        }
        weather.pass(told, panes.unbroken(), seed, n);
        return answer(weather.times);
    }

    // ---- acts

    public boolean scratch(int p, int cell) {
        int why = whyNot(p, isCell(cell));
        if (why == FINE && (panes.strokes[p] >> cell & 1) != 0) {
            why = NOT_SO;
        }
        return act(why, Panes.SCRATCH, p, cell);
    }

    public boolean cover(int p, int cell) {
        int why = whyNot(p, isCell(cell));
        if (why == FINE && (panes.putty[p] >> cell & 1) != 0) {
            why = NOT_SO;
        }
        return act(why, Panes.COVER, p, cell);
    }

    public boolean breaks(int p) {
        int why = whyNot(p, true);
        if (why == FINE && told.kind[p] == City.THICK) {
            why = NOT_SO;
        }
        return act(why, Panes.BREAK, p, 0);
    }

    public boolean undo() {
        troubleNumber = panes.takeBack() ? FINE : NO_ONE;
        return troubleNumber == FINE;
    }

    public int mark() {
        if (noCity()) {
            return refuse(NO_SUCH);
        }
        if (!panes.keep()) {
            return refuse(NO_ROOM);
        }
        return answer(panes.marks - 1);
    }

    public boolean back(int mark) {
        troubleNumber = panes.restore(mark) ? FINE : NO_SUCH;
        return troubleNumber == FINE;
    }

    // ---- what is told

    public int led(int i) throws NoSuchElementException {
        int before = 0;
        for (int p = 0; p < told.count[City.PANE]; p++) {
            if (!panes.isBroken(p) && panes.wordRead(p, NOTHING) != NOTHING) {
                if (before == i) {
                    return p;
                }
                before++;
            }
        }
        throw new NoSuchElementException();
    }

    public int size(int what) {
        switch (what) {
            case 0: return told.wide;
            case 1: return told.high;
            case 2: return told.hail;
            case 3: return told.ice;
            case 4: return told.count[City.PANE];
            case 5: return told.count[City.WORD];
            case 6: return told.count[City.VIEW];
            case 7: return told.count[City.CORNER];
            case 8: return told.count[City.STREET];
            case 9: return told.count[City.THIEF];
            case 10: return told.count[City.SENT];
            case 11: return told.count[City.PERSON];
            case 12: return told.count[City.SHARD];
            case 13: return panes.acts;
            case 14: return panes.marks;
            case 15: return tape.length;
            default: return NONE;
        }
    }

    public int trouble() {
        return troubleNumber;
    }

    // ---- what calls have in common

    private int refuse(int why) {
        troubleNumber = why;
        return NONE;
    }

    private int answer(int value) {
        troubleNumber = FINE;
        return value;
    }

    /** No city stands without a pane, so the panes tell whether there is one. */
    private boolean noCity() {
        return told.count[City.PANE] == 0;
    }

    private boolean isPane(int p) {
        return p >= 0 && p < told.count[City.PANE];
    }

    private boolean isWord(int w) {
        return w >= 0 && w < told.count[City.WORD];
    }

    private boolean isView(int v) {
        return v >= 0 && v < told.count[City.VIEW];
    }

    private boolean isSight(int view) {
        return view == NOTHING || isView(view);
    }

    private boolean isCorner(int c) {
        return c >= 0 && c < told.count[City.CORNER];
    }

    private boolean isLetter(int l) {
        return l >= 0 && l < told.count[City.SENT];
    }

    private boolean isCell(int cell) {
        return cell >= 0 && cell < told.cells();
    }

    private int whyNot(int p, boolean othersFit) {
        if (!isPane(p) || !othersFit) {
            return NO_SUCH;
        }
        return panes.isBroken(p) ? NOT_SO : FINE;
    }

    private int whyNotBoth(int p, int q) {
        int why = whyNot(p, isPane(q) && p != q);
        return why == FINE ? whyNot(q, true) : why;
    }

    /** Leaves the safest way in ways, if there is one. */
    private int whyNotSafest(int p, int from, int to) {
        int why = whyNot(p, isCorner(from) && isCorner(to));
        if (why != FINE) {
            return why;
        }
        ways.goSafest(told, from, to, told.kind[p] == City.THICK);
        return ways.length == 0 ? NO_ONE : FINE;
    }

    /** Leaves the two panes in twins, if they can be. */
    private int whyNotMade(int first, int view, int second, int other, int third) {
        if (!isWord(first) || !isWord(second) || !isWord(third) || !isSight(view) || !isSight(other)) {
            return NO_SUCH;
        }
        boolean can = twins.make(told.word[first], told.darkOf(view),
                told.word[second], told.darkOf(other), told.word[third]);
        return can ? FINE : NO_ONE;
    }

    private int whyNoDays(int seed, int n) {
        if (noCity()) {
            return NO_SUCH;
        }
        return seed < 0 || seed > MOST_SEED || n < 0 || n > MOST_DAYS ? BAD_NUMBER : FINE;
    }

    private boolean act(int why, int sort, int p, int cell) {
        troubleNumber = why;
        if (why != FINE) {
            return false;
        }
        panes.perform(sort, p, cell);
        return true;
    }

    private int soonestMinutes(int from, int to, int shut) {
        ways.goSoonest(told, from, to, shut);
        return ways.length == 0 ? NOTHING : ways.minutes();
    }

    private int cornerOfWay(int i) {
        return i >= 0 && i < ways.length ? answer(ways.best[i]) : refuse(NO_SUCH);
    }

    private int readersOf(int l) {
        int p = told.letterPane[l];
        if (panes.isBroken(p)) {
            return 0;
        }
        ways.goSoonest(told, told.letterFrom[l], told.letterTo[l], 0);
        return ways.corners() & panes.readingCorners(p);
    }

    /** The bytes that were fed and that no city has taken yet. */
    private static final class Tape {
        static final int ROOM = 1100;
        private static final int FED_AT_ONCE = 20;

        final byte[] bytes;
        int length;

        Tape() {
            bytes = new byte[ROOM];
            length = 0;
        }

        boolean hasRoom() {
            return length + FED_AT_ONCE <= ROOM;
        }

        void put(int four) {
            for (int shift = 24; shift >= 0; shift -= 8) {
                if (length < ROOM) {
                    bytes[length] = (byte) (four >> shift);
                    length++;
                }
            }
        }
    }

    /** Parts the text into tokens, one at a time, so that a later fault never hides an earlier one. */
    private static final class Tokens {
        static final int END = 0;
        static final int WORD = 1;
        static final int WHOLE = 2;
        static final int SEMICOLON = 3;
        static final int COMMA = 4;
        static final int NO_TOKEN = 5;

        private static final int MOST_LETTERS = 8;
        private static final int MOST_DIGITS = 2;

        private final byte[] bytes;
        private int end;
        int sort;
        int start;
        int length;

        Tokens(Tape tape) {
            bytes = tape.bytes;
            end = 0;
            sort = END;
            start = 0;
            length = 0;
        }

        void open(int n) {
            end = Math.min(n, bytes.length);
            start = 0;
            length = 0;
            step();
        }

        /** Letters or digits that stand together are one token, or none at all if they are too many. */
        void step() {
            int place = start + length;
            while (place < end && bytes[place] == ' ') {
                place++;
            }
            start = place;
            sort = sortAt(place);
            length = sort == END ? 0 : 1;
            if (sort != WORD && sort != WHOLE) {
                return;
            }
            while (start + length < end && sortAt(start + length) == sort) {
                length++;
            }
            if (length > (sort == WORD ? MOST_LETTERS : MOST_DIGITS)) {
                sort = NO_TOKEN;
            }
        }

        private int sortAt(int place) {
            if (place >= end) {
                return END;
            }
            int sign = bytes[place];
            if (sign >= 'a' && sign <= 'z') {
                return WORD;
            }
            if (sign >= '0' && sign <= '9') {
                return WHOLE;
            }
            if (sign == ';') {
                return SEMICOLON;
            }
            return sign == ',' ? COMMA : NO_TOKEN;
        }

        boolean is(String text) {
            if (sort != WORD || length != text.length()) {
                return false;
            }
            for (int i = 0; i < length; i++) {
                if (bytes[start + i] != text.charAt(i)) {
                    return false;
                }
            }
            return true;
        }

        int letter(int i) {
            return i >= 0 && i < length ? bytes[start + i] : 0;
        }

        /** A word of up to eight letters as one number, five bits for each letter. */
        long key() {
            long key = 0;
            for (int i = 0; i < length; i++) {
                key = (key << 5) + (bytes[start + i] - 'a' + 1);
            }
            return key;
        }

        int value() {
            int value = 0;
            for (int i = 0; i < length; i++) {
                value = 10 * value + (bytes[start + i] - '0');
            }
            return value;
        }
    }

    /** What a text tells; the lines of each sort are counted under the sort's number. */
    private static final class City {
        static final int NO_SORT = -1;
        static final int CITY = 0;
        static final int PANE = 1;
        static final int WORD = 2;
        static final int VIEW = 3;
        static final int CORNER = 4;
        static final int STREET = 5;
        static final int THIEF = 6;
        static final int SENT = 7;
        static final int PERSON = 8;
        static final int SHARD = 9;
        static final int SHELF = 10;
        static final int SORTS = 11;

        static final int PLAIN = 0;
        static final int THICK = 1;
        static final int ICE = 2;

        static final int PANES = 8;
        static final int WORDS = 8;
        static final int VIEWS = 6;
        static final int CORNERS = 7;
        static final int STREETS = 12;
        static final int LETTERS = 6;
        static final int PEOPLE = 4;
        static final int SHARDS = 8;

        final int[] count;
        int wide;
        int high;
        int hail;
        int ice;
        int shelfLight;
        final int[] kind;
        final int[] strokes;
        final int[] word;
        final int[] dark;
        final int[] viewAt;
        final int[] minutes;
        final int[] risk;
        int thieves;
        final int[] letterPane;
        final int[] letterFrom;
        final int[] letterTo;
        final int[] shardPerson;
        final int[] shardCells;
        final int[] shardStrokes;

        City() {
            count = new int[SORTS];
            kind = new int[PANES];
            strokes = new int[PANES];
            word = new int[WORDS];
            dark = new int[VIEWS];
            viewAt = new int[CORNERS];
            minutes = new int[CORNERS * CORNERS];
            risk = new int[CORNERS * CORNERS];
            letterPane = new int[LETTERS];
            letterFrom = new int[LETTERS];
            letterTo = new int[LETTERS];
            shardPerson = new int[SHARDS];
            shardCells = new int[SHARDS];
            shardStrokes = new int[SHARDS];
        }

        /** Rows behind a count of 0 are never looked at; the streets are, by their corners. */
        void clear() {
            for (int sort = 0; sort < SORTS; sort++) {
                count[sort] = 0;
            }
            for (int pair = 0; pair < CORNERS * CORNERS; pair++) {
                minutes[pair] = 0;
                risk[pair] = 0;
            }
            wide = 0;
            high = 0;
            hail = 0;
            ice = 0;
            shelfLight = 0;
            thieves = 0;
        }

        int cells() {
            return wide * high;
        }

        int allCells() {
            return (1 << cells()) - 1;
        }

        int darkOf(int view) {
            return view >= 0 && view < VIEWS ? dark[view] : 0;
        }

        int firstWord(int bits) {
            for (int w = 0; w < count[WORD]; w++) {
                if (word[w] == bits) {
                    return w;
                }
            }
            return NOTHING;
        }

        static int street(int from, int to) {
            return from * CORNERS + to;
        }

        boolean hasThief(int corner) {
            return (thieves >> corner & 1) != 0;
        }

        boolean isWhole(int set) {
            int have = 0;
            for (int s = 0; s < count[SHARD]; s++) {
                if ((set >> s & 1) != 0) {
                    if ((have & shardCells[s]) != 0) {
                        return false;
                    }
                    have |= shardCells[s];
                }
            }
            return have == allCells();
        }

        int countWholes() {
            int many = 0;
            for (int set = 1; set < 1 << count[SHARD]; set++) {
                if (isWhole(set)) {
                    many++;
                }
            }
            return many;
        }

        /** 0 if there is none such: a whole has at least one shard. */
        int wholeAt(int i) {
            int before = 0;
            for (int set = 1; set < 1 << count[SHARD]; set++) {
                if (isWhole(set)) {
                    if (before == i) {
                        return set;
                    }
                    before++;
                }
            }
            return 0;
        }

        int strokesOfShards(int set) {
            int bits = 0;
            for (int s = 0; s < count[SHARD]; s++) {
                if ((set >> s & 1) != 0) {
                    bits |= shardStrokes[s];
                }
            }
            return bits;
        }

        int ownerOfMost(int set) {
            int owner = 0;
            int most = -1;
            for (int person = 0; person < count[PERSON]; person++) {
                int has = cellsOfPerson(set, person);
                if (has > most) {
                    most = has;
                    owner = person;
                }
            }
            return owner;
        }

        private int cellsOfPerson(int set, int person) {
            int has = 0;
            for (int s = 0; s < count[SHARD]; s++) {
                if ((set >> s & 1) != 0 && shardPerson[s] == person) {
                    has += Integer.bitCount(shardCells[s]);
                }
            }
            return has;
        }

        int cellsWithoutShard() {
            int have = 0;
            for (int s = 0; s < count[SHARD]; s++) {
                have |= shardCells[s];
            }
            return allCells() & ~have;
        }
    }

    /** Reads a text into a city, up to its first fault. */
    private static final class Parser {
        private static final int FORM = 1;
        private static final int UNTOLD = 2;
        private static final int AGAIN = 3;
        private static final int BOUNDS = 4;
        private static final int MANY = 5;
        private static final int LACKS = 6;
        private static final int ROW = 7;

        private static final int MOST_NAMES =
                City.PANES + City.WORDS + City.VIEWS + City.CORNERS + City.PEOPLE;

        private final Tokens tokens;
        private final long[] nameKey;
        private final int[] nameSort;
        private final int[] nameNumber;
        private int names;
        private City city;
        private int lineStart;
        private int number;
        private int rowStrokes;
        private int rowCells;
        int fault;
        int place;

        Parser(Tape tape, City first) {
            tokens = new Tokens(tape);
            city = first;
            place = NONE;
            nameKey = new long[MOST_NAMES];
            nameSort = new int[MOST_NAMES];
            nameNumber = new int[MOST_NAMES];
        }

        boolean parse(int n, City into) {
            city = into;
            city.clear();
            names = 0;
            fault = 0;
            place = NONE;
            tokens.open(n);
            if (!firstLine()) {
                return false;
            }
            for (int lines = 0; lines < Tape.ROOM; lines++) {
                if (tokens.sort == Tokens.END) {
                    return city.count[City.PANE] > 0 || fail(LACKS);
                }
                if (tokens.sort != Tokens.SEMICOLON) {
                    return fail(FORM);
                }
                tokens.step();
                if (!line()) {
                    return false;
                }
            }
            return fail(FORM);
        }

        private boolean fail(int why) {
            fault = why;
            place = tokens.start;
            return false;
        }

        private int lineSort() {
            if (tokens.is("city")) {
                return City.CITY;
            }
            if (tokens.is("pane")) {
                return City.PANE;
            }
            if (tokens.is("word")) {
                return City.WORD;
            }
            if (tokens.is("view")) {
                return City.VIEW;
            }
            if (tokens.is("corner")) {
                return City.CORNER;
            }
            if (tokens.is("street")) {
                return City.STREET;
            }
            if (tokens.is("thief")) {
                return City.THIEF;
            }
            if (tokens.is("sent")) {
                return City.SENT;
            }
            if (tokens.is("person")) {
                return City.PERSON;
            }
            if (tokens.is("shard")) {
                return City.SHARD;
            }
            return tokens.is("shelf") ? City.SHELF : City.NO_SORT;
        }

        private boolean firstLine() {
            int sort = lineSort();
            if (sort == City.NO_SORT) {
                return fail(FORM);
            }
            if (sort != City.CITY) {
                return fail(LACKS);
            }
            tokens.step();
            if (!fixed("wide") || !numberWithin(2, 5)) {
                return false;
            }
            city.wide = number;
            if (!fixed("high") || !numberWithin(2, 4)) {
                return false;
            }
            city.high = number;
            if (!fixed("hail") || !numberWithin(0, 99)) {
                return false;
            }
            city.hail = number;
            if (!fixed("ice") || !numberWithin(1, 60)) {
                return false;
            }
            city.ice = number;
            return true;
        }

        private boolean line() {
            int sort = lineSort();
            if (sort == City.NO_SORT) {
                return fail(FORM);
            }
            if (sort == City.CITY || sort == City.SHELF && city.count[City.SHELF] > 0) {
                return fail(AGAIN);
            }
            if (city.count[sort] >= roomFor(sort)) {
                return fail(MANY);
            }
            lineStart = tokens.start;
            tokens.step();
            boolean good;
            switch (sort) {
                case City.PANE: good = paneLine(); break;
                case City.WORD: good = wordLine(); break;
                case City.VIEW: good = viewLine(); break;
                case City.CORNER: good = cornerLine(); break;
                case City.STREET: good = streetLine(); break;
                case City.THIEF: good = thiefLine(); break;
                case City.SENT: good = sentLine(); break;
                case City.PERSON: good = newName(City.PERSON); break;
                case City.SHARD: good = shardLine(); break;
                default: good = shelfLine();
            }
            if (good) {
                city.count[sort]++;
            }
            return good;
        }

        /** Thieves have as much room as there are corners: one more is told again at its corner. */
        private static int roomFor(int sort) {
            switch (sort) {
                case City.PANE: return City.PANES;
                case City.WORD: return City.WORDS;
                case City.VIEW: return City.VIEWS;
                case City.CORNER: return City.CORNERS;
                case City.STREET: return City.STREETS;
                case City.SENT: return City.LETTERS;
                case City.PERSON: return City.PEOPLE;
                case City.SHARD: return City.SHARDS;
                default: return Tape.ROOM;
            }
        }

        private boolean paneLine() {
            if (!newName(City.PANE) || !kindOfPane() || !rows(false)) {
                return false;
            }
            city.strokes[city.count[City.PANE]] = rowStrokes;
            return true;
        }

        private boolean kindOfPane() {
            int kind = City.PLAIN;
            if (tokens.is("thick")) {
                kind = City.THICK;
            } else if (tokens.is("ice")) {
                kind = City.ICE;
            } else if (!tokens.is("plain")) {
                return fail(FORM);
            }
            city.kind[city.count[City.PANE]] = kind;
            tokens.step();
            return true;
        }

        private boolean wordLine() {
            if (!newName(City.WORD) || !rows(false)) {
                return false;
            }
            city.word[city.count[City.WORD]] = rowStrokes;
            return true;
        }

        private boolean viewLine() {
            if (!newName(City.VIEW) || !rows(false)) {
                return false;
            }
            city.dark[city.count[City.VIEW]] = rowStrokes;
            return true;
        }

        private boolean cornerLine() {
            if (!newName(City.CORNER) || !knownName(City.VIEW)) {
                return false;
            }
            city.viewAt[city.count[City.CORNER]] = number;
            tokens.step();
            return true;
        }

        private boolean streetLine() {
            if (!knownName(City.CORNER)) {
                return false;
            }
            int from = number;
            tokens.step();
            if (!knownName(City.CORNER)) {
                return false;
            }
            int to = number;
            if (to == from || city.minutes[City.street(from, to)] > 0) {
                return fail(AGAIN);
            }
            tokens.step();
            if (!numberWithin(1, 99)) {
                return false;
            }
            int minutes = number;
            if (!fixed("breaks") || !numberWithin(0, 50)) {
                return false;
            }
            city.minutes[City.street(from, to)] = minutes;
            city.minutes[City.street(to, from)] = minutes;
            city.risk[City.street(from, to)] = number;
            city.risk[City.street(to, from)] = number;
            return true;
        }

        private boolean thiefLine() {
            if (!knownName(City.CORNER)) {
                return false;
            }
            if (city.hasThief(number)) {
                return fail(AGAIN);
            }
            city.thieves |= 1 << number;
            tokens.step();
            return true;
        }

        private boolean sentLine() {
            int letter = city.count[City.SENT];
            if (!knownName(City.PANE)) {
                return false;
            }
            city.letterPane[letter] = number;
            tokens.step();
            if (!knownName(City.CORNER)) {
                return false;
            }
            city.letterFrom[letter] = number;
            tokens.step();
            if (!knownName(City.CORNER)) {
                return false;
            }
            city.letterTo[letter] = number;
            tokens.step();
            return true;
        }

        private boolean shardLine() {
            int shard = city.count[City.SHARD];
            if (!knownName(City.PERSON)) {
                return false;
            }
            city.shardPerson[shard] = number;
            tokens.step();
            if (!rows(true)) {
                return false;
            }
            if (rowCells == 0) {
                fail(ROW);
                place = lineStart;
                return false;
            }
            city.shardCells[shard] = rowCells;
            city.shardStrokes[shard] = rowStrokes;
            return true;
        }

        private boolean shelfLine() {
            if (!numberWithin(0, 99)) {
                return false;
            }
            city.shelfLight = number;
            return true;
        }

        private boolean fixed(String text) {
            if (!tokens.is(text)) {
                return fail(FORM);
            }
            tokens.step();
            return true;
        }

        private boolean numberWithin(int least, int most) {
            if (tokens.sort != Tokens.WHOLE) {
                return fail(FORM);
            }
            number = tokens.value();
            if (number < least || number > most) {
                return fail(BOUNDS);
            }
            tokens.step();
            return true;
        }

        private int findName(long key) {
            for (int i = 0; i < names; i++) {
                if (nameKey[i] == key) {
                    return i;
                }
            }
            return NONE;
        }

        private boolean newName(int sort) {
            if (tokens.sort != Tokens.WORD || lineSort() != City.NO_SORT) {
                return fail(FORM);
            }
            long key = tokens.key();
            if (findName(key) != NONE) {
                return fail(AGAIN);
            }
            if (names < MOST_NAMES) {
                nameKey[names] = key;
                nameSort[names] = sort;
                nameNumber[names] = city.count[sort];
                names++;
            }
            tokens.step();
            return true;
        }

        /** Stays at the name, because the caller may find a fault of its own there. */
        private boolean knownName(int sort) {
            if (tokens.sort != Tokens.WORD || lineSort() != City.NO_SORT) {
                return fail(FORM);
            }
            int found = findName(tokens.key());
            if (found == NONE || nameSort[found] != sort) {
                return fail(UNTOLD);
            }
            number = nameNumber[found];
            return true;
        }

        private boolean rows(boolean ofShard) {
            rowStrokes = 0;
            rowCells = 0;
            for (int r = 0; r < city.high; r++) {
                if (r > 0 && tokens.sort == Tokens.COMMA) {
                    tokens.step();
                } else if (r > 0) {
                    boolean over = tokens.sort == Tokens.SEMICOLON || tokens.sort == Tokens.END;
                    return fail(over ? LACKS : FORM);
                }
                if (tokens.sort != Tokens.WORD) {
                    return fail(FORM);
                }
                if (!row(r * city.wide, ofShard)) {
                    return fail(ROW);
                }
                tokens.step();
            }
            return true;
        }

        private boolean row(int firstCell, boolean ofShard) {
            if (tokens.length != city.wide) {
                return false;
            }
            for (int i = 0; i < tokens.length; i++) {
                int letter = tokens.letter(i);
                boolean hasNothing = ofShard && letter == 'm';
                if (letter != 'o' && letter != 'x' && !hasNothing) {
                    return false;
                }
                if (letter == 'x') {
                    rowStrokes |= 1 << (firstCell + i);
                }
                if (!hasNothing) {
                    rowCells |= 1 << (firstCell + i);
                }
            }
            return true;
        }
    }

    /** The panes as they are now, with the acts that can be undone and the marks. */
    private static final class Panes {
        static final int SCRATCH = 0;
        static final int COVER = 1;
        static final int BREAK = 2;

        private static final int KEPT_ACTS = 16;
        private static final int MOST_MARKS = 3;
        private static final int MARK_SIZE = 2 * City.PANES + 1;
        private static final int MOST_PUTTY = 4;

        private City told;
        final int[] strokes;
        final int[] putty;
        private int broken;
        private final int[] actSort;
        private final int[] actPane;
        private final int[] actCell;
        int acts;
        private final int[] kept;
        int marks;

        Panes(City first) {
            told = first;
            strokes = new int[City.PANES];
            putty = new int[City.PANES];
            actSort = new int[KEPT_ACTS];
            actPane = new int[KEPT_ACTS];
            actCell = new int[KEPT_ACTS];
            kept = new int[MOST_MARKS * MARK_SIZE];
        }

        void begin(City city) {
            told = city;
            for (int p = 0; p < City.PANES; p++) {
                strokes[p] = city.strokes[p];
                putty[p] = 0;
            }
            broken = 0;
            acts = 0;
            marks = 0;
        }

        boolean isBroken(int p) {
            return (broken >> p & 1) != 0;
        }

        int unbroken() {
            return ((1 << told.count[City.PANE]) - 1) & ~broken;
        }

        int light(int p) {
            return told.cells() - Integer.bitCount(strokes[p]);
        }

        int seenBits(int p, int view) {
            return strokes[p] & ~putty[p] & ~told.darkOf(view);
        }

        int wordRead(int p, int view) {
            return told.firstWord(seenBits(p, view));
        }

        int laidTogether(int p, int q) {
            return seenBits(p, NOTHING) | seenBits(q, NOTHING);
        }

        int firstPair(int bits) {
            for (int p = 0; p < told.count[City.PANE]; p++) {
                for (int q = p + 1; q < told.count[City.PANE]; q++) {
                    if (!isBroken(p) && !isBroken(q) && laidTogether(p, q) == bits) {
                        return 10 * p + q;
                    }
                }
            }
            return NOTHING;
        }

        /** The thieves' corners at which the pane would be read. */
        int readingCorners(int p) {
            int corners = 0;
            for (int c = 0; c < told.count[City.CORNER]; c++) {
                if (told.hasThief(c) && wordRead(p, told.viewAt[c]) != NOTHING) {
                    corners |= 1 << c;
                }
            }
            return corners;
        }

        int leastPutty(int p, int view) {
            int bits = seenBits(p, view);
            for (int many = 0; many <= MOST_PUTTY; many++) {
                int cells = hide(bits, 0, many);
                if (cells != NOTHING) {
                    return cells;
                }
            }
            return NOTHING;
        }

        /** Only cells that are seen are tried: with another one the set would not be the least. */
        private int hide(int bits, int from, int more) {
            if (more <= 0) {
                return told.firstWord(bits) == NOTHING ? 0 : NOTHING;
            }
            for (int cell = from; cell < told.cells(); cell++) {
                if ((bits >> cell & 1) != 0) {
                    int others = hide(bits & ~(1 << cell), cell + 1, more - 1);
                    if (others != NOTHING) {
                        return others | 1 << cell;
                    }
                }
            }
            return NOTHING;
        }

        int fewestScratches(int p, int view, int word) {
            int bits = seenBits(p, view);
            int lacking = told.word[word] & ~bits;
            boolean tooMuch = (bits & ~told.word[word]) != 0;
            boolean hidden = (lacking & (told.darkOf(view) | putty[p])) != 0;
            return tooMuch || hidden ? NOTHING : Integer.bitCount(lacking);
        }

        int bestForShelf() {
            int best = 0;
            int bestLight = 0;
            int whole = unbroken();
            for (int set = 1; set <= whole; set++) {
                int light = lightOf(set);
                if ((set & ~whole) == 0 && light <= told.shelfLight) {
                    int more = Integer.bitCount(set) - Integer.bitCount(best);
                    if (more > 0 || more == 0 && light > bestLight) {
                        best = set;
                        bestLight = light;
                    }
                }
            }
            return best;
        }

        private int lightOf(int set) {
            int light = 0;
            for (int p = 0; p < told.count[City.PANE]; p++) {
                if ((set >> p & 1) != 0) {
                    light += light(p);
                }
            }
            return light;
        }

        int writerHas(int p, int view) {
            int many = Integer.bitCount(seenBits(p, view));
            return wordRead(p, view) == NOTHING ? many : -many;
        }

        /** The reader's choices: 0 is no view, behind it the views. */
        private static int viewOf(int choice) {
            return choice == 0 ? NOTHING : choice - 1;
        }

        boolean isRest(int p, int choice) {
            if (isBroken(p)) {
                return false;
            }
            int now = writerHas(p, viewOf(choice));
            for (int q = 0; q < told.count[City.PANE]; q++) {
                if (!isBroken(q) && writerHas(q, viewOf(choice)) > now) {
                    return false;
                }
            }
            for (int another = 0; another <= told.count[City.VIEW]; another++) {
                if (writerHas(p, viewOf(another)) < now) {
                    return false;
                }
            }
            return true;
        }

        void perform(int sort, int p, int cell) {
            change(sort, p, cell);
            if (acts >= KEPT_ACTS) {
                forgetOldest();
            }
            actSort[acts] = sort;
            actPane[acts] = p;
            actCell[acts] = cell;
            acts++;
        }

        /** An act is allowed only where it changes its bit, so doing it again takes it back. */
        private void change(int sort, int p, int cell) {
            if (sort == SCRATCH) {
                strokes[p] ^= 1 << cell;
            } else if (sort == COVER) {
                putty[p] ^= 1 << cell;
            } else {
                broken ^= 1 << p;
            }
        }

        private void forgetOldest() {
            acts = KEPT_ACTS - 1;
            for (int i = 0; i < acts; i++) {
                actSort[i] = actSort[i + 1];
                actPane[i] = actPane[i + 1];
                actCell[i] = actCell[i + 1];
            }
        }

        boolean takeBack() {
            if (acts == 0) {
                return false;
            }
            acts--;
            change(actSort[acts], actPane[acts], actCell[acts]);
            return true;
        }

        boolean keep() {
            if (marks >= MOST_MARKS) {
                return false;
            }
            int at = marks * MARK_SIZE;
            for (int p = 0; p < City.PANES; p++) {
                kept[at + p] = strokes[p];
                kept[at + City.PANES + p] = putty[p];
            }
            kept[at + 2 * City.PANES] = broken;
            marks++;
            return true;
        }

        boolean restore(int mark) {
            if (mark < 0 || mark >= marks) {
                return false;
            }
            int at = mark * MARK_SIZE;
            for (int p = 0; p < City.PANES; p++) {
                strokes[p] = kept[at + p];
                putty[p] = kept[at + City.PANES + p];
            }
            broken = kept[at + 2 * City.PANES];
            acts = 0;
            return true;
        }
    }

    /** Walks all ways in the order of their corners' numbers, so the first best one is the one that is due. */
    private static final class Ways {
        /** No way has more than six streets, so a chance in hundredths of each is whole over this. */
        static final long SURE = 1000000000000L;

        private static final int MOST_DIVISIONS = 100;

        private City city;
        private int goal;
        private boolean byChance;
        private boolean neverBreaks;
        private final int[] path;
        final int[] best;
        int length;
        long worth;

        Ways(City first) {
            city = first;
            path = new int[City.CORNERS];
            best = new int[City.CORNERS];
        }

        void goSoonest(City through, int from, int to, int shut) {
            byChance = false;
            neverBreaks = false;
            go(through, from, to, shut);
        }

        void goSafest(City through, int from, int to, boolean thick) {
            byChance = true;
            neverBreaks = thick;
            go(through, from, to, 0);
        }

        int minutes() {
            return (int) -worth;
        }

        int corners() {
            int bits = 0;
            for (int i = 0; i < length; i++) {
                bits |= 1 << best[i];
            }
            return bits;
        }

        private void go(City through, int from, int to, int shut) {
            city = through;
            goal = to;
            length = 0;
            worth = 0;
            if ((shut >> from & 1) == 0) {
                walk(from, 0, shut | 1 << from, byChance ? SURE : 0);
            }
        }

        /** Shut corners count as corners where the way has been. */
        private void walk(int at, int steps, int been, long worthHere) {
            if (steps >= City.CORNERS) {
                return;
            }
            path[steps] = at;
            if (at == goal) {
                keepIfBetter(steps + 1, worthHere);
                return;
            }
            for (int next = 0; next < city.count[City.CORNER]; next++) {
                int street = City.street(at, next);
                if ((been >> next & 1) == 0 && city.minutes[street] > 0) {
                    walk(next, steps + 1, been | 1 << next, worthBehind(street, worthHere));
                }
            }
        }

        private long worthBehind(int street, long worthHere) {
            if (!byChance) {
                return worthHere - city.minutes[street];
            }
            return neverBreaks ? worthHere : worthHere / 100 * (100 - city.risk[street]);
        }

        private void keepIfBetter(int corners, long worthOfWay) {
            if (length > 0 && worthOfWay <= worth) {
                return;
            }
            length = corners;
            worth = worthOfWay;
            for (int i = 0; i < corners; i++) {
                best[i] = path[i];
            }
        }

        /** At least 1, so that it can divide. */
        static long greatestDivisor(long a, long b) {
            long greater = a;
            long lesser = b;
            for (int i = 0; i < MOST_DIVISIONS && lesser != 0; i++) {
                long rest = greater % lesser;
                greater = lesser;
                lesser = rest;
            }
            return greater > 0 ? greater : 1;
        }
    }

    /** Two panes of fewest strokes that say one thing each alone and another together. */
    private static final class Twins {
        int one;
        int other;

        Twins() {
            one = 0;
            other = 0;
        }

        /** What must come goes to the other pane where it can, for the least bits of the one. */
        boolean make(int first, int firstDark, int second, int secondDark, int third) {
            int lacking = third & ~(first | second);
            int toOther = lacking & secondDark;
            int toOne = lacking & ~secondDark;
            boolean alone = (first & firstDark) == 0 && (second & secondDark) == 0;
            boolean laid = ((first | second) & ~third) == 0 && (toOne & ~firstDark) == 0;
            if (!alone || !laid) {
                return false;
            }
            one = first | toOne;
            other = second | toOther;
            return true;
        }

        int strokes() {
            return Integer.bitCount(one) + Integer.bitCount(other);
        }
    }

    /** Days of hail by draws, from a set of panes on. */
    private static final class Hail {
        private int seed;
        int remaining;
        int times;

        Hail() {
            seed = 0;
            remaining = 0;
            times = 0;
        }

        void pass(City city, int panes, int firstSeed, int days) {
            seed = firstSeed;
            remaining = panes;
            times = 0;
            for (int day = 1; day <= days; day++) {
                if (draw() % 100 < city.hail) {
                    times++;
                    strike(city);
                }
                if (day == city.ice) {
                    melt(city);
                }
            }
        }

        private int draw() {
            seed = (75 * seed + 74) % 65537;
            return seed;
        }

        /** It may fall on a pane that is gone already: all panes of the city are drawn from. */
        private void strike(City city) {
            int panes = city.count[City.PANE];
            if (panes > 0) {
                int p = draw() % panes;
                if (city.kind[p] != City.THICK) {
                    remaining &= ~(1 << p);
                }
            }
        }

        private void melt(City city) {
            for (int p = 0; p < city.count[City.PANE]; p++) {
                if (city.kind[p] == City.ICE) {
                    remaining &= ~(1 << p);
                }
            }
        }
    }
}
