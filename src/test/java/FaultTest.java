/** The faults of a text, each with its place: the sign ^ stands there and is no part of the text. */
public final class FaultTest {
    private static final Due D = new Due("FaultTest");
    private static final String HEAD = Due.HEAD;
    private static final String PANE = HEAD + ";pane p plain xo,ox";
    private static final String TOWN = PANE + ";view v oo,oo;corner c v;corner d v";

    public static void main(String[] args) {
        formOfTokens();
        formOfTheCity();
        formOfLines();
        formOfNames();
        untold();
        toldAgain();
        bounds();
        many();
        lacks();
        rows();
        shards();
        firstFromTheLeft();
        goodOnes();
        D.end();
    }

    private static void fault(int number, String marked) {
        D.fault(number, marked);
    }

    private static void good(String text, int panes) {
        D.good(text, panes);
    }

    private static void formOfTokens() {
        fault(1, "^City wide 2");
        fault(1, "^#");
        fault(1, "city^\twide 2");
        fault(1, "city^\nwide 2");
        fault(1, "city ^\u00e1wide");
        fault(1, "city ^\u0000");
        fault(1, "city wide ^-2");
        fault(1, "city wide 2^.5");
        fault(1, "^abcdefghi");
        fault(1, "city wide ^222 high");
        fault(1, "city wide ^002 high");
        fault(1, PANE + ";view ^abcdefghi oo,oo");
        fault(1, PANE + ";view v ^oooooooooo,oo");
        fault(1, PANE + ";view v oo^|oo");
        fault(1, PANE + " ^a");
        fault(1, PANE + "^7");
    }

    private static void formOfTheCity() {
        fault(1, "^");
        fault(1, "   ^");
        fault(1, "^;");
        fault(1, "^,");
        fault(1, "^12");
        fault(1, "^town");
        fault(1, "^dity wide 2");
        fault(1, "^cits wide 2");
        fault(1, "^cit wide 2");
        fault(1, "^citys wide 2");
        fault(1, "city^");
        fault(1, "city ^high 2");
        fault(1, "city ^3");
        fault(1, "city wide^");
        fault(1, "city wide ^two");
        fault(1, "city wide 2^");
        fault(1, "city wide 2 ^3");
        fault(1, "city wide 2 high^");
        fault(1, "city wide 2 high 2 ^ice");
        fault(1, "city wide 2 high 2 hail^;");
        fault(1, "city wide 2 high 2 hail 3 ^hail 4");
        fault(1, "city wide 2 high 2 hail 3 ice^");
        fault(1, "city wide 2 high 2 hail 3 ice 4 ^5");
        fault(1, "city wide 2 high 2 hail 3 ice 4^,");
        fault(1, HEAD + ";^");
        fault(1, HEAD + ";  ^");
        fault(1, HEAD + ";^;pane p plain xo,ox");
        fault(1, PANE + ";^");
        fault(1, PANE + ";^5");
        fault(1, PANE + ";^plain");
        fault(1, PANE + ";^panes");
        fault(1, PANE + " ^pane");
    }

    private static void formOfLines() {
        fault(1, HEAD + ";pane^");
        fault(1, HEAD + ";pane ^;");
        fault(1, HEAD + ";pane ^3 plain");
        fault(1, HEAD + ";pane p^");
        fault(1, HEAD + ";pane p ^wood");
        fault(1, HEAD + ";pane p ^xo,ox");
        fault(1, HEAD + ";pane p ^thief");
        fault(1, HEAD + ";pane p plain^");
        fault(1, HEAD + ";pane p plain^;");
        fault(1, HEAD + ";pane p plain^,");
        fault(1, HEAD + ";pane p plain ^10,01");
        fault(1, HEAD + ";pane p plain xo ^ox");
        fault(1, HEAD + ";pane p plain xo,^");
        fault(1, HEAD + ";pane p plain xo,^;");
        fault(1, HEAD + ";pane p plain xo,^,ox");
        fault(1, HEAD + ";pane p plain xo,ox^,xx");
        fault(1, HEAD + ";pane p plain xo,ox ^xx");
        fault(1, PANE + ";word w^");
        fault(1, PANE + ";word w ^1");
        fault(1, PANE + ";word w xo ^ox");
        fault(1, PANE + ";view^");
        fault(1, PANE + ";view w oo,oo^,oo");
        fault(1, PANE + ";corner^");
        fault(1, TOWN + ";corner e^");
        fault(1, TOWN + ";corner e ^1");
        fault(1, TOWN + ";corner e v ^v");
        fault(1, TOWN + ";street^");
        fault(1, TOWN + ";street c^");
        fault(1, TOWN + ";street c ^5");
        fault(1, TOWN + ";street c d^");
        fault(1, TOWN + ";street c d ^breaks");
        fault(1, TOWN + ";street c d 5^");
        fault(1, TOWN + ";street c d 5 ^break 5");
        fault(1, TOWN + ";street c d 5 ^5");
        fault(1, TOWN + ";street c d 5 breaks^");
        fault(1, TOWN + ";street c d 5 breaks ^c");
        fault(1, TOWN + ";street c d 5 breaks 5 ^5");
        fault(1, TOWN + ";thief^");
        fault(1, TOWN + ";thief ^1");
        fault(1, TOWN + ";thief c ^d");
        fault(1, TOWN + ";sent^");
        fault(1, TOWN + ";sent p^");
        fault(1, TOWN + ";sent p c^");
        fault(1, TOWN + ";sent p c ^9");
        fault(1, TOWN + ";sent p c d ^p");
        fault(1, TOWN + ";person^");
        fault(1, TOWN + ";person ^9");
        fault(1, TOWN + ";person a ^b");
        fault(1, TOWN + ";person a;shard^");
        fault(1, TOWN + ";person a;shard a^");
        fault(1, TOWN + ";person a;shard a ^1");
        fault(1, TOWN + ";person a;shard a xm,mx^,mm");
        fault(1, TOWN + ";shelf^");
        fault(1, TOWN + ";shelf ^a");
        fault(1, TOWN + ";shelf ^100");
        fault(1, TOWN + ";shelf 5 ^5");
    }

    private static void formOfNames() {
        String[] kept = {"city", "pane", "word", "view", "corner", "street", "thief", "sent", "person", "shard", "shelf"};
        for (String word : kept) {
            fault(1, PANE + ";word ^" + word + " xo,ox");
            fault(1, TOWN + ";corner e ^" + word);
            fault(1, TOWN + ";thief ^" + word);
        }
        String[] free = {"wide", "high", "hail", "ice", "plain", "thick", "breaks", "o", "x", "m", "abcdefgh", "z"};
        for (String word : free) {
            good(PANE + ";person " + word, 1);
        }
    }

    private static void untold() {
        fault(2, PANE + ";corner c ^v");
        fault(2, PANE + ";corner c ^p");
        fault(2, PANE + ";view v oo,oo;corner c ^c");
        fault(2, TOWN + ";street ^v d 5 breaks 5");
        fault(2, TOWN + ";street ^e d 5 breaks 5");
        fault(2, TOWN + ";street c ^p 5 breaks 5");
        fault(2, TOWN + ";street c ^cc 5 breaks 5");
        fault(2, TOWN + ";thief ^e");
        fault(2, TOWN + ";thief ^p");
        fault(2, TOWN + ";sent ^c c d");
        fault(2, TOWN + ";sent ^q c d");
        fault(2, TOWN + ";sent p ^v d");
        fault(2, TOWN + ";sent p c ^p");
        fault(2, TOWN + ";sent p c ^later;corner later v");
        fault(2, TOWN + ";shard ^a xx,xx");
        fault(2, PANE + ";person b;shard ^bb xx,xx");
        fault(2, PANE + ";person aab;shard ^ab xx,xx");
        fault(2, PANE + ";person abcdefgh;shard ^bcdefgh xx,xx");
        fault(2, TOWN + ";person a;shard ^c xx,xx");
    }

    private static void toldAgain() {
        fault(3, PANE + ";pane ^p ice xo,ox");
        fault(3, PANE + ";word ^p xo,ox");
        fault(3, PANE + ";view ^p xo,ox");
        fault(3, TOWN + ";corner ^c v");
        fault(3, TOWN + ";corner ^v v");
        fault(3, TOWN + ";person ^d");
        fault(3, TOWN + ";person a;person ^a");
        fault(3, TOWN + ";street c ^c");
        fault(3, TOWN + ";street c d 5 breaks 5;street c ^d");
        fault(3, TOWN + ";street c d 5 breaks 5;street d ^c");
        fault(3, TOWN + ";street c d 1 breaks 0;street d ^c");
        fault(3, TOWN + ";thief c;thief ^c");
        fault(3, TOWN + ";thief d;thief c;thief ^d");
        fault(3, HEAD + ";^city wide 2");
        fault(3, TOWN + ";^city");
        fault(3, TOWN + ";shelf 5;^shelf 6");
        fault(3, TOWN + ";shelf 5;^shelf");
    }

    private static void bounds() {
        fault(4, "city wide ^1");
        fault(4, "city wide ^6");
        fault(4, "city wide ^00");
        fault(4, "city wide 5 high ^1");
        fault(4, "city wide 5 high ^5");
        fault(4, "city wide 5 high 4 hail 99 ice ^0");
        fault(4, "city wide 5 high 4 hail 0 ice ^61");
        fault(4, TOWN + ";street c d ^0");
        fault(4, TOWN + ";street c d ^00 breaks 5");
        fault(4, TOWN + ";street c d 1 breaks ^51");
        fault(4, TOWN + ";street c d 99 breaks ^99");
        good("city wide 2 high 2 hail 0 ice 1;pane p plain xo,ox", 1);
        good("city wide 05 high 04 hail 99 ice 60;pane p plain xoxox,ooooo,xxxxx,ooooo;shelf 99", 1);
        good(TOWN + ";street c d 99 breaks 50;shelf 0", 1);
        good(TOWN + ";street c d 1 breaks 0;shelf 00", 1);
    }

    private static String lines(String before, String behind, int many) {
        StringBuilder text = new StringBuilder();
        for (int i = 0; i < many; i++) {
            text.append(';').append(before).append((char) ('a' + i)).append(behind);
        }
        return text.toString();
    }

    private static void many() {
        good(HEAD + lines("pane n", " ice xo,ox", 8), 8);
        fault(5, HEAD + lines("pane n", " ice xo,ox", 8) + ";^pane");
        good(PANE + lines("word n", " xo,ox", 8), 1);
        fault(5, PANE + lines("word n", " xo,ox", 8) + ";^word p 99");
        good(PANE + lines("view n", " xo,ox", 6), 1);
        fault(5, PANE + lines("view n", " xo,ox", 6) + ";^view w xo,ox");
        String corners = PANE + ";view v oo,oo" + lines("corner n", " v", 7);
        good(corners, 1);
        fault(5, corners + ";^corner nh v");
        StringBuilder streets = new StringBuilder(corners);
        int many = 0;
        for (int a = 0; a < 7 && many < 12; a++) {
            for (int b = a + 1; b < 7 && many < 12; b++) {
                streets.append(";street n").append((char) ('a' + a)).append(" n").append((char) ('a' + b)).append(" 5 breaks 5");
                many++;
            }
        }
        good(streets.toString(), 1);
        fault(5, streets + ";^street nf ng 5 breaks 5");
        good(corners + lines("thief n", "", 7), 1);
        fault(3, corners + lines("thief n", "", 7) + ";thief ^ng");
        fault(2, corners + lines("thief n", "", 7) + ";thief ^v");
        good(TOWN + lines("sent p c d", "", 1).replace("da", "d").repeat(6), 1);
        fault(5, TOWN + ";sent p c d".repeat(6) + ";^sent p c d");
        good(TOWN + lines("person n", "", 4), 1);
        fault(5, TOWN + lines("person n", "", 4) + ";^person");
        good(TOWN + ";person a" + ";shard a xm,mm".repeat(8), 1);
        fault(5, TOWN + ";person a" + ";shard a xm,mm".repeat(8) + ";^shard a mm,mm");
    }

    private static void lacks() {
        String[] others = {"pane", "word", "view", "corner", "street", "thief", "sent", "person", "shard", "shelf"};
        for (String word : others) {
            fault(6, "^" + word);
            fault(6, "  ^" + word + " 7;" + HEAD);
        }
        fault(6, HEAD + ";pane p plain xo^");
        fault(6, HEAD + ";pane p plain xo  ^");
        fault(6, HEAD + ";pane p plain xo^;");
        fault(6, HEAD + ";pane p plain xo  ^; word");
        fault(6, "city wide 2 high 4 hail 1 ice 1;pane p plain xo,ox,xx^");
        fault(6, PANE + ";word w xo^;word");
        fault(6, PANE + ";view w xo^");
        fault(6, PANE + ";person a;shard a xo^");
        fault(6, PANE + ";person a;shard a mm^;");
        fault(6, HEAD + "^");
        fault(6, HEAD + "  ^");
        fault(6, HEAD + ";word w xo,ox^");
        fault(6, HEAD + ";shelf 7^");
    }

    private static void rows() {
        fault(7, HEAD + ";pane p plain ^xxx,xx");
        fault(7, HEAD + ";pane p plain ^x,xx");
        fault(7, HEAD + ";pane p plain ^xa,xx");
        fault(7, HEAD + ";pane p plain ^xm,xx");
        fault(7, HEAD + ";pane p plain xx,^xxx");
        fault(7, HEAD + ";pane p plain xx,^x");
        fault(7, HEAD + ";pane p plain xx,^mm");
        fault(7, HEAD + ";pane p plain ^pane");
        fault(7, HEAD + ";pane p plain ^x1,xx");
        fault(7, PANE + ";word w ^zz,xx");
        fault(7, PANE + ";word w xx,^city");
        fault(7, PANE + ";word w ^mo,oo");
        fault(7, PANE + ";word w oo,^om");
        fault(7, PANE + ";view w oo,^xoo");
        fault(7, PANE + ";view w ^mo,oo");
        fault(7, "city wide 5 high 2 hail 1 ice 1;pane p ice xoxox,^xoxo");
    }

    private static void shards() {
        fault(7, PANE + ";person a;^shard a mm,mm");
        fault(7, PANE + ";person a;^shard a mm,mm;shard a xx,xx");
        fault(7, PANE + ";person a;^shard a mm,mm 5");
        fault(7, PANE + ";person a;^shard a mm,mm,mm");
        fault(7, PANE + ";person a;^shard a mm,mm#");
        fault(7, PANE + ";person a;shard a ^zz");
        fault(7, PANE + ";person a;shard a mm,^mmm");
        fault(7, PANE + ";person a;shard a mm,^ma");
        fault(7, PANE + ";person a;shard a xx,xx;^shard a mm,mm");
        good(PANE + ";person a;shard a mm,mo;shard a xm,mm", 1);
    }

    private static void firstFromTheLeft() {
        fault(1, HEAD + ";pane p ^wood;#");
        fault(4, "city wide ^9 high 9 #");
        fault(3, PANE + ";word ^p #");
        fault(2, PANE + ";corner c ^v #");
        fault(5, PANE + ";view v oo,oo;view w oo,oo;view x oo,oo;view y oo,oo;view z oo,oo;view u oo,oo;^view #");
        fault(7, HEAD + ";pane p plain ^x#,xx");
        fault(1, HEAD + ";pane p plain xx^#");
    }

    private static void goodOnes() {
        good(PANE, 1);
        String[] alike = {"a", "aa", "aaaaaaaa", "b", "bb", "ab", "ba", "zzzzzzzz"};
        StringBuilder panes = new StringBuilder(HEAD);
        for (String name : alike) {
            panes.append(";pane ").append(name).append(" ice xo,ox");
        }
        good(panes.toString(), 8);
        good("  city   wide 2 high 2 hail 50 ice 2 ; pane p   plain xo , ox  ", 1);
        good("city wide2high2hail50ice2;pane p plain xo,ox", 1);
        good("city wide 2 high 2 hail 5 ice 2;shelf 3;word w xx,xx;pane plain plain xo,ox;pane ice ice xo,ox", 2);
        good(TOWN + ";sent p c c;sent p d c;person wide;shard wide xm,mo;street d c 1 breaks 0", 1);
    }
}
