/** The edges of term I, sentence by sentence: tokens, lines, bounds, rooms, names. */
public final class EdgeTextTest {
    private static final Due D = new Due("EdgeTextTest");
    private static final String HEAD = Due.HEAD;
    private static final String SMALL = Due.SMALL;
    private static final String TOWN = SMALL + ";view v oo,oo;corner c v;corner d v";
    private static final String[] LINES = {"city", "pane", "word", "view", "corner", "street", "thief", "sent",
        "person", "shard", "shelf"};

    public static void main(String[] args) {
        blanks();
        words();
        wholes();
        singles();
        lines();
        cityBounds();
        aheadOfAllOthers();
        kinds();
        rooms();
        roomOfViews();
        rows();
        rowsOfLetters();
        strokesAndDark();
        corners();
        streets();
        streetBounds();
        thieves();
        letters();
        people();
        shards();
        shelf();
        names();
        toldOnce();
        aheadOfUse();
        D.end();
    }

    private static void blanks() {
        D.says("I", "blanks, 32, part TOKENS and mean nothing else");
        String spread = "   city   wide  2  high   2 hail  50   ice 2  ;  pane   p  plain   xo  ,  ox   ";
        GlassPost g = D.good(spread, 1);
        D.due("strokes", g.pane(0, 1), 9);
        D.good("city wide2high2hail50ice2;pane p plain xo,ox", 1);
        D.fault(1, "^ci ty wide 2");
        D.fault(1, "^citywide 2");
        D.fault(1, "city wide 2 high 2 hail 5 ^0 ice 2");
        D.fault(7, HEAD + ";pane p plain ^x o,ox");
        D.fault(1, HEAD + ";pane p ^pl ain xo,ox");
        for (int sign : new int[] {0, 1, 9, 10, 11, 12, 13, 31, 33, 95, 127, 128, 133, 160, 223, 255}) {
            D.fault(1, "city^" + (char) sign + "wide 2");
            D.fault(1, "^" + (char) sign + HEAD);
            D.fault(1, SMALL + "^" + (char) sign);
            D.fault(1, SMALL + " ^" + (char) sign + ";");
        }
    }

    private static void words() {
        D.says("I", "TOKENS: WORDS of 1 to 8 small letters that stand together");
        for (String name : new String[] {"a", "z", "az", "abcdefg", "abcdefgh", "zzzzzzzz", "aaaaaaaa"}) {
            GlassPost g = D.good(SMALL + ";person " + name + ";shard " + name + " xo,mm", 1);
            D.due("people", g.size(11), 1);
            D.due("shards", g.size(12), 1);
        }
        D.fault(1, SMALL + ";person ^abcdefghi");
        D.fault(1, SMALL + ";person ^abcdefghijklmnop");
        D.fault(1, SMALL + ";person abcdefgh ^i");
        D.fault(1, "^abcdefghi");
        D.fault(1, SMALL + ";view v ^ooooooooo,oo");
        D.fault(7, SMALL + ";view v ^oooooooo,oo");
        for (char sign : new char[] {'A', 'Z', '`', '{', '@', '[', '_', '\u00e0'}) {
            D.fault(1, SMALL + ";person ^" + sign);
            D.fault(1, SMALL + ";person a^" + sign);
        }
    }

    private static void wholes() {
        D.says("I", "WHOLES of 1 to 2 digits that do");
        for (String number : new String[] {"0", "9", "00", "09", "10", "90", "99"}) {
            GlassPost g = D.good("city wide 2 high 2 hail " + number + " ice 2;pane p plain xo,ox", 1);
            D.due("hail " + number, g.size(2), Integer.parseInt(number));
        }
        D.fault(1, "city wide 2 high 2 hail ^000 ice 2");
        D.fault(1, "city wide 2 high 2 hail ^100 ice 2");
        D.fault(1, "city wide 2 high 2 hail ^1234567890123 ice 2");
        D.fault(1, "city wide ^002 high 2");
        for (char sign : new char[] {'/', ':', '-', '+', '.', '\u00b2'}) {
            D.fault(1, "city wide ^" + sign + "2 high 2");
            D.fault(1, "city wide 2^" + sign + " high 2");
        }
    }

    private static void singles() {
        D.says("I", "single ones of ; ,");
        D.good(HEAD + " ; pane p plain xo , ox", 1);
        D.fault(1, HEAD + ";^;pane p plain xo,ox");
        D.fault(1, HEAD + ";pane p plain xo,^,ox");
        D.fault(1, HEAD + ";pane p plain xo,^;");
        D.fault(1, HEAD + "^,pane p plain xo,ox");
        for (char sign : new char[] {':', '<', '+', '-', '.', '*', '!', '\'', '='}) {
            D.fault(1, HEAD + "^" + sign + "pane p plain xo,ox");
            D.fault(1, HEAD + ";pane p plain xo^" + sign + "ox");
        }
    }

    private static void lines() {
        D.says("I", "LINE {; LINE}. LINE, one of:");
        D.good(SMALL, 1);
        D.fault(1, "^");
        D.fault(1, "^;" + SMALL);
        D.fault(1, SMALL + ";^");
        D.fault(1, SMALL + ";   ^");
        D.fault(1, SMALL + ";^;");
        D.fault(1, SMALL + " ^word w xo,ox");
        for (String word : LINES) {
            String other = word.substring(0, word.length() - 1);
            D.fault(1, SMALL + ";^" + other + " a");
            D.fault(1, SMALL + ";^" + word + "s a");
            D.fault(1, SMALL + ";^z" + word.substring(1));
            D.fault(1, SMALL + ";^" + other + "z");
            D.fault(1, "^" + other);
            D.fault(1, "^z" + word.substring(1));
        }
        for (String word : new String[] {"plain", "wide", "breaks", "ice", "p", "x"}) {
            D.fault(1, SMALL + ";^" + word);
            D.fault(1, "^" + word);
        }
        D.fault(1, SMALL + ";^7");
        D.fault(1, SMALL + ";^,");
    }

    private static String grid(int wide, int high, char sign) {
        StringBuilder rows = new StringBuilder();
        for (int r = 0; r < high; r++) {
            rows.append(r == 0 ? "" : ",").append(String.valueOf(sign).repeat(wide));
        }
        return rows.toString();
    }

    private static void cityBounds() {
        D.says("I", "city wide WHOLE high WHOLE hail WHOLE ice WHOLE (2 .. 5, 2 .. 4; 0 .. 99 in a hundred; 1 .. 60 days)");
        for (int wide = 2; wide <= 5; wide++) {
            for (int high = 2; high <= 4; high++) {
                GlassPost g = D.good("city wide " + wide + " high " + high + " hail 0 ice 1;pane p ice " + grid(wide, high, 'x'), 1);
                D.due("wide", g.size(0), wide);
                D.due("high", g.size(1), high);
                D.due("strokes", g.pane(0, 1), (1 << wide * high) - 1);
                D.told(g, "the last cell", g.cover(0, wide * high - 1), true, 0);
                D.told(g, "none behind it", g.cover(0, wide * high), false, 1);
            }
        }
        for (String wide : new String[] {"0", "1", "6", "7", "10", "99", "00", "01", "06"}) {
            D.fault(4, "city wide ^" + wide + " high 2 hail 0 ice 1");
        }
        for (String high : new String[] {"0", "1", "5", "6", "10", "99", "00", "01", "05"}) {
            D.fault(4, "city wide 2 high ^" + high + " hail 0 ice 1");
        }
        for (int hail : new int[] {0, 1, 98, 99}) {
            GlassPost g = D.good("city wide 2 high 2 hail " + hail + " ice 1;pane p plain xo,ox", 1);
            D.due("hail", g.size(2), hail);
        }
        D.fault(1, "city wide 2 high 2 hail ^100 ice 1");
        for (int ice : new int[] {1, 2, 59, 60}) {
            GlassPost g = D.good("city wide 2 high 2 hail 0 ice " + ice + ";pane p plain xo,ox", 1);
            D.due("ice", g.size(3), ice);
        }
        for (String ice : new String[] {"0", "00", "61", "62", "99"}) {
            D.fault(4, "city wide 2 high 2 hail 0 ice ^" + ice + ";pane p plain xo,ox");
        }
    }

    private static void aheadOfAllOthers() {
        D.says("I", ", ahead of all others");
        for (int i = 1; i < LINES.length; i++) {
            D.fault(6, "^" + LINES[i]);
            D.fault(6, "  ^" + LINES[i] + " a;" + SMALL);
        }
        D.fault(3, SMALL + ";^city wide 2 high 2 hail 0 ice 1");
    }

    private static void kinds() {
        D.says("I", "pane NAME KIND ROWS (KIND: plain, thick, or ice; up to 8)");
        String[] kinds = {"plain", "thick", "ice"};
        for (int i = 0; i < 3; i++) {
            GlassPost g = D.good(HEAD + ";pane p " + kinds[i] + " xo,ox", 1);
            D.fine(g, "kind", g.pane(0, 0), i);
        }
        for (String kind : new String[] {"plai", "plains", "hick", "thic", "ic", "ices", "iced", "pane", "x"}) {
            D.fault(1, HEAD + ";pane p ^" + kind + " xo,ox");
        }
        D.fault(1, HEAD + ";pane p ^0 xo,ox");
        D.fault(1, HEAD + ";pane p ^xo,ox");
        D.fault(1, HEAD + ";pane ^");
        D.fault(1, HEAD + ";pane p ^");
        String eight = HEAD + Full.PANES;
        GlassPost g = D.good(eight, 8);
        D.fine(g, "the eighth", g.pane(7, 0), 2);
        D.fault(5, eight + ";^pane q plain xo,ox");
        D.fault(5, eight + ";^pane");
    }

    private static void rooms() {
        D.says("I", "or word NAME ROWS (up to 8)");
        String eight = SMALL + Full.WORDS;
        GlassPost g = D.good(eight, 1);
        D.due("words", g.size(5), 8);
        D.fine(g, "the eighth", g.word(7), 15);
        D.fault(5, eight + ";^word w xo,ox");
        D.fault(5, eight + ";^word p");
        D.fault(1, SMALL + ";word ^");
        D.fault(1, SMALL + ";word w ^");
        D.fault(1, SMALL + ";word w ^;");
    }

    private static void roomOfViews() {
        D.says("I", "or view NAME ROWS (up to 6)");
        String six = SMALL + Full.VIEWS;
        GlassPost g = D.good(six, 1);
        D.due("views", g.size(6), 6);
        D.fine(g, "the sixth", g.view(5), 15);
        D.fault(5, six + ";^view w xo,ox");
        D.fault(5, six + ";^view #");
        D.fault(1, SMALL + ";view ^");
        D.fault(1, SMALL + ";view w ^,");
    }

    private static void rows() {
        D.says("I", "ROWS: ROW {, ROW}, as many as high: WORDS of as many letters as wide");
        for (int wide = 2; wide <= 5; wide++) {
            for (int high = 2; high <= 4; high++) {
                String head = "city wide " + wide + " high " + high + " hail 0 ice 1;pane p ice ";
                String rows = grid(wide, high, 'o');
                D.good(head + rows, 1);
                D.fault(1, head + rows + "^," + "o".repeat(wide));
                D.fault(6, head + grid(wide, high - 1, 'o') + "^");
                D.fault(6, head + grid(wide, high - 1, 'o') + " ^;");
                D.fault(1, head + grid(wide, high - 1, 'o') + ",^");
                D.fault(7, head + "^" + rows.substring(1));
                D.fault(7, head + "^o" + rows);
                String allButLast = grid(wide, high - 1, 'o') + ",";
                D.fault(7, head + allButLast + "^" + "o".repeat(wide - 1));
                D.fault(7, head + allButLast + "^" + "o".repeat(wide + 1));
            }
        }
        D.fault(1, HEAD + ";pane p plain ^12,34");
        D.fault(1, HEAD + ";pane p plain xo,^5");
        D.fault(1, HEAD + ";pane p plain ^,xo");
    }

    private static void rowsOfLetters() {
        D.says("I", ", each o or x");
        for (char sign = 'a'; sign <= 'z'; sign++) {
            String[] places = {"^" + sign + "o,oo", "^o" + sign + ",oo", "oo,^" + sign + "o", "oo,^o" + sign};
            for (String rows : places) {
                if (sign == 'o' || sign == 'x') {
                    D.good(HEAD + ";pane p plain " + rows.replace("^", ""), 1);
                } else {
                    D.fault(7, HEAD + ";pane p plain " + rows);
                    D.fault(7, SMALL + ";word w " + rows);
                    D.fault(7, SMALL + ";view w " + rows);
                }
            }
        }
    }

    private static void strokesAndDark() {
        D.says("I", "(a stroke; of a view: dark)");
        GlassPost g = D.good("city wide 3 high 2 hail 0 ice 1;pane p plain xoo,oox;pane q plain ooo,ooo;pane r ice xxx,xxx"
                + ";word a xoo,oox;word b ooo,ooo;word c xxx,xxx;view d xoo,oox;view e ooo,ooo;view f xxx,xxx", 3);
        int[] bits = {33, 0, 63};
        for (int i = 0; i < 3; i++) {
            D.fine(g, "strokes of pane " + i, g.pane(i, 1), bits[i]);
            D.fine(g, "strokes of word " + i, g.word(i), bits[i]);
            D.fine(g, "dark cells of view " + i, g.view(i), bits[i]);
        }
    }

    private static void corners() {
        D.says("I", "corner NAME VIEW (up to 7)");
        String one = SMALL + ";view v oo,oo;corner c v";
        GlassPost g = D.good(one, 1);
        D.due("corners", g.size(7), 1);
        String seven = SMALL + Full.VIEWS + Full.CORNERS;
        g = D.good(seven, 1);
        D.due("corners", g.size(7), 7);
        D.fine(g, "the seventh is there", g.soonest(6, 6), 0);
        D.refused(g, "there is no eighth", g.soonest(7, 7), 1);
        D.fault(5, seven + ";^corner ch va");
        D.fault(5, seven + ";^corner");
        D.fault(1, SMALL + ";corner ^");
        D.fault(1, SMALL + ";corner c ^");
        D.fault(1, one + " ^v");
    }

    private static void streets() {
        D.says("I", "street CORNER CORNER WHOLE breaks WHOLE (unlike; once in whatever order;");
        D.good(TOWN + ";street c d 5 breaks 5", 1);
        D.fault(3, TOWN + ";street c ^c 5 breaks 5");
        D.fault(3, TOWN + ";street d ^d");
        D.fault(3, TOWN + ";street c d 5 breaks 5;street c ^d 6 breaks 6");
        D.fault(3, TOWN + ";street c d 5 breaks 5;street d ^c 6 breaks 6");
        D.fault(3, TOWN + ";street d c 5 breaks 5;street c ^d");
        D.good(TOWN + ";corner e v;street c d 5 breaks 5;street e c 5 breaks 5;street d e 5 breaks 5", 1);
        D.says("I", "up to 12), or thief");
        String twelve = SMALL + Full.VIEWS + Full.CORNERS + Full.STREETS;
        GlassPost g = D.good(twelve, 1);
        D.due("streets", g.size(8), 12);
        D.fine(g, "the twelfth", g.soonest(4, 6), 9);
        D.fine(g, "the twelfth breaks", g.safest(0, 4, 6, false), 3);
        D.fault(5, twelve + ";^street cb cg 1 breaks 0");
        D.fault(5, twelve + ";^street cb ca");
        D.fault(5, twelve + ";^street");
    }

    private static void streetBounds() {
        D.says("I", "1 .. 99 minutes; 0 .. 50 in a hundred;");
        for (int minutes : new int[] {1, 2, 98, 99}) {
            GlassPost g = D.good(TOWN + ";street c d " + minutes + " breaks 0", 1);
            D.fine(g, "minutes", g.soonest(0, 1), minutes);
            D.fine(g, "minutes back", g.soonest(1, 0), minutes);
        }
        D.fault(4, TOWN + ";street c d ^0 breaks 0");
        D.fault(4, TOWN + ";street c d ^00 breaks 0");
        D.fault(1, TOWN + ";street c d ^100 breaks 0");
        for (int breaks : new int[] {0, 1, 49, 50}) {
            GlassPost g = D.good(TOWN + ";street c d 1 breaks " + breaks, 1);
            D.fine(g, "it doesn't break, of a hundred", g.safest(0, 0, 1, false) * 100 / g.safest(0, 0, 1, true), 100 - breaks);
            D.fine(g, "nor back", g.safest(0, 1, 0, false) * 100 / g.safest(0, 1, 0, true), 100 - breaks);
        }
        for (String breaks : new String[] {"51", "52", "99"}) {
            D.fault(4, TOWN + ";street c d 1 breaks ^" + breaks);
        }
        D.fault(1, TOWN + ";street c d 1 breaks ^100");
        D.fault(1, TOWN + ";street c d 1 ^break 5");
        D.fault(1, TOWN + ";street c d ^breaks 5");
    }

    private static void thieves() {
        D.says("I", "thief CORNER (once for each)");
        String seven = SMALL + Full.VIEWS + Full.CORNERS;
        for (int i = 0; i < 7; i++) {
            seven += ";thief c" + (char) ('a' + 6 - i);
            GlassPost g = D.good(seven, 1);
            D.due("thieves", g.size(9), i + 1);
        }
        for (char c = 'a'; c <= 'g'; c++) {
            D.fault(3, seven + ";thief ^c" + c);
        }
        D.fault(2, seven + ";thief ^ch");
        D.fault(3, TOWN + ";thief d;thief ^d");
        D.fault(1, TOWN + ";thief c ^d");
        D.fault(1, TOWN + ";thief ^");
    }

    private static void letters() {
        D.says("I", "sent PANE CORNER CORNER (up to 6)");
        String six = TOWN + ";sent p c d;sent p d c;sent p c c;sent p c d;sent p c d;sent p d d";
        GlassPost g = D.good(six, 1);
        D.due("letters", g.size(10), 6);
        D.fine(g, "the sixth goes from", g.sent(5, 1), 1);
        D.fine(g, "the sixth goes to", g.sent(5, 2), 1);
        D.fault(5, six + ";^sent p c d");
        D.fault(5, six + ";^sent q");
        D.fault(1, TOWN + ";sent p c ^");
        D.fault(1, TOWN + ";sent p c ^;");
        D.fault(1, TOWN + ";sent p c d ^d");
        D.good(TOWN + ";sent p d d", 1);
    }

    private static void people() {
        D.says("I", "person NAME (up to 4)");
        GlassPost g = D.good(SMALL + Full.PEOPLE, 1);
        D.due("people", g.size(11), 4);
        D.fault(5, SMALL + Full.PEOPLE + ";^person ke");
        D.fault(5, SMALL + Full.PEOPLE + ";^person ka");
        D.fault(5, SMALL + Full.PEOPLE + ";^person");
        D.fault(1, SMALL + ";person ^");
        D.fault(1, SMALL + ";person ^;");
        D.fault(1, SMALL + ";person n ^n");
    }

    private static void shards() {
        D.says("I", "shard PERSON SHARDROWS (like ROWS, but of o, x, or m, where it has nothing; one cell at least; up to 8)");
        String person = SMALL + ";person n;";
        for (char sign = 'a'; sign <= 'z'; sign++) {
            boolean right = sign == 'o' || sign == 'x' || sign == 'm';
            if (right) {
                D.good(person + "shard n o" + sign + ",m" + sign, 1);
            } else {
                D.fault(7, person + "shard n ^o" + sign + ",mo");
                D.fault(7, person + "shard n oo,^" + sign + "m");
            }
        }
        for (String rows : new String[] {"om,mm", "mo,mm", "mm,om", "mm,mo", "xm,mm", "mm,mx"}) {
            D.good(person + "shard n " + rows, 1);
        }
        D.fault(7, person + "^shard n mm,mm");
        D.fault(7, person + "shard n ^mmm,mm");
        D.fault(7, person + "shard n mm,^m");
        D.fault(6, person + "shard n xx^");
        D.fault(1, person + "shard n xx,^");
        D.fault(1, person + "shard n xx,xx^,xx");
        GlassPost g = D.good(SMALL + Full.PEOPLE + Full.SHARDS, 1);
        D.due("shards", g.size(12), 8);
        D.fault(5, SMALL + Full.PEOPLE + Full.SHARDS + ";^shard ka xx,xx");
        D.fault(5, SMALL + Full.PEOPLE + Full.SHARDS + ";^shard ka mm,mm");
        D.fault(5, SMALL + Full.PEOPLE + Full.SHARDS + ";^shard");
    }

    private static void shelf() {
        D.says("I", "shelf WHOLE (0 .. 99; once)");
        GlassPost none = D.good(SMALL + ";shelf 0", 1);
        D.fine(none, "nothing fits", none.shelf(), 0);
        GlassPost edge = D.good(SMALL + ";shelf 1", 1);
        D.fine(edge, "two lights do not fit", edge.shelf(), 0);
        GlassPost fits = D.good(SMALL + ";shelf 2", 1);
        D.fine(fits, "two lights fit", fits.shelf(), 1);
        GlassPost most = D.good(SMALL + ";shelf 99", 1);
        D.fine(most, "all fits", most.shelf(), 1);
        D.fault(1, SMALL + ";shelf ^100");
        D.fault(1, SMALL + ";shelf ^-1");
        D.fault(1, SMALL + ";shelf ^");
        D.fault(3, SMALL + ";shelf 0;^shelf 0");
        D.fault(3, SMALL + ";shelf 99;^shelf");
    }

    private static void names() {
        D.says("I", "NAMES are WORDS but city, pane, word, view, corner, street, thief, sent, person, shard, shelf");
        for (String word : LINES) {
            D.fault(1, HEAD + ";pane ^" + word + " plain xo,ox");
            D.fault(1, SMALL + ";word ^" + word + " xo,ox");
            D.fault(1, SMALL + ";view ^" + word + " xo,ox");
            D.fault(1, TOWN + ";corner ^" + word + " v");
            D.fault(1, TOWN + ";person ^" + word);
            D.fault(1, TOWN + ";corner e ^" + word);
            D.fault(1, TOWN + ";street ^" + word + " d 5 breaks 5");
            D.fault(1, TOWN + ";street c ^" + word + " 5 breaks 5");
            D.fault(1, TOWN + ";thief ^" + word);
            D.fault(1, TOWN + ";sent ^" + word + " c d");
            D.fault(1, TOWN + ";sent p ^" + word + " d");
            D.fault(1, TOWN + ";sent p c ^" + word);
            D.fault(1, TOWN + ";person n;shard ^" + word + " xo,ox");
        }
        for (String word : new String[] {"wide", "high", "hail", "ice", "plain", "thick", "breaks", "o", "x", "m", "oo",
            "cities", "panes", "cit", "shel", "streets"}) {
            GlassPost g = D.good(HEAD + ";pane " + word + " ice xo,ox;view v oo,oo;corner c v;sent " + word + " c c", 1);
            D.due("letters", g.size(10), 1);
            D.good(SMALL + ";person " + word + ";shard " + word + " xo,ox", 1);
        }
        D.fault(1, SMALL + ";person ^5");
        D.fault(1, SMALL + ";person ^,");
    }

    private static void toldOnce() {
        D.says("I", "each told once");
        String all = SMALL + ";word w xo,ox;view v oo,oo;corner c v;person n";
        D.good(all, 1);
        for (String name : new String[] {"p", "w", "v", "c", "n"}) {
            D.fault(3, all + ";pane ^" + name + " plain xo,ox");
            D.fault(3, all + ";word ^" + name + " xo,ox");
            D.fault(3, all + ";view ^" + name + " xo,ox");
            D.fault(3, all + ";corner ^" + name + " v");
            D.fault(3, all + ";person ^" + name);
        }
        for (String name : new String[] {"pp", "a", "aa", "ab", "ba", "abcdefgh", "abcdefg", "bcdefgh", "abcdefgi"}) {
            all += name.length() == 8 || name.length() == 7 ? ";view " + name + " oo,oo" : ";word " + name + " oo,oo";
            D.good(all, 1);
        }
        String[] alike = {"r", "ab", "aq", "ba", "bq", "ca", "az", "za"};
        String[] longer = {"aaaaaaaa", "aaaaaaab", "aaaaaaba", "baaaaaaa", "zzzzzzzz", "zzzzzzzy", "yzzzzzzz", "zyzzzzzz"};
        StringBuilder names = new StringBuilder(HEAD);
        for (int i = 0; i < 8; i++) {
            names.append(";pane ").append(alike[i]).append(" ice xo,ox;word ").append(longer[i]).append(" xo,ox");
        }
        D.good(names.toString(), 8);
        for (int i = 0; i < 8; i++) {
            D.fault(3, names + ";view ^" + alike[i] + " oo,oo");
            D.fault(3, names + ";person ^" + longer[i]);
        }
        D.good(Full.CITY, 8);
        D.fault(3, HEAD + Full.PANES + Full.WORDS + Full.VIEWS + Full.CORNERS + ";person ka;person kb;person kc;person ^cg");
    }

    private static void aheadOfUse() {
        D.says("I", ", ahead of its use.");
        D.fault(2, SMALL + ";corner c ^v;view v oo,oo");
        D.fault(2, SMALL + ";view v oo,oo;corner c v;street c ^d 5 breaks 5;corner d v");
        D.fault(2, SMALL + ";view v oo,oo;corner d v;street ^c d 5 breaks 5;corner c v");
        D.fault(2, SMALL + ";view v oo,oo;thief ^c;corner c v");
        D.fault(2, TOWN + ";sent ^q c d;pane q plain xo,ox");
        D.fault(2, TOWN + ";sent p ^e d;corner e v");
        D.fault(2, TOWN + ";sent p c ^e;corner e v");
        D.fault(2, TOWN + ";shard ^n xo,ox;person n");
        D.good(HEAD + ";view v oo,oo;corner c v;thief c;pane p ice oo,oo;sent p c c;person n;shard n xm,mm", 1);
    }
}
