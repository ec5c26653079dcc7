/** The faults of term I, sentence by sentence: which one is told, and where it is. */
public final class EdgeFaultTest {
    private static final Due D = new Due("EdgeFaultTest");
    private static final String HEAD = Due.HEAD;
    private static final String SMALL = Due.SMALL;
    private static final String TOWN = SMALL + ";view v oo,oo;corner c v;corner d v";
    private static final String MAN = SMALL + ";person n";

    public static void main(String[] args) {
        firstFromTheLeft();
        leastNumberOfAPlace();
        formOfAByte();
        formOfATokenInTheCity();
        formOfATokenInALine();
        formAtTheEnd();
        notTold();
        ofAnotherSort();
        toldAgain();
        streetAgain();
        thiefAgain();
        secondCityOrShelf();
        outOfBounds();
        many();
        aheadOfTheCity();
        rowsTooFew();
        noPane();
        rowOfOtherLetters();
        rowOfMoreOrFewer();
        shardOfNothing();
        D.end();
    }

    /** Two faults in each text: the one that is met first is told, of whatever number it is. */
    private static void firstFromTheLeft() {
        D.says("I", "FAULTS, the first that is met from the left");
        String[] one = {";^#", ";corner a ^u", ";word ^p xo,ox", ";shelf 5;street c d ^0", ";word w xo^;", ";word w ^xxx,xo"};
        String[] two = {";#", ";corner b u", ";word p xo,ox", ";street d c 0", ";word y xo;", ";word y xxx,xo", "", ";city"};
        int[] numbers = {1, 2, 3, 4, 6, 7};
        for (int i = 0; i < one.length; i++) {
            for (String later : two) {
                D.fault(numbers[i], TOWN + one[i] + later);
            }
        }
        for (String later : two) {
            D.fault(5, TOWN + ";sent p c d".repeat(6) + ";^sent" + later);
            D.fault(6, "^pane" + later);
            D.fault(4, "city wide ^9" + later);
        }
        D.fault(7, HEAD + ";pane p plain ^x#,xx");
        D.fault(3, TOWN + ";word ^c#");
        D.fault(2, TOWN + ";thief ^e#");
    }

    private static void leastNumberOfAPlace() {
        D.says("I", ", of one place the least number:");
        D.fault(1, HEAD + ";^");
        D.fault(1, HEAD + ";word w^");
        D.fault(1, HEAD + ";pane p plain^");
        D.fault(1, HEAD + ";pane p plain xo,^");
        D.fault(1, "^");
        D.fault(1, SMALL + ";view v ^ooooooooo,oo");
        D.fault(3, SMALL + ";shelf 1;^shelf 1");
        D.fault(3, HEAD + Full.PANES + ";^city");
        D.fault(2, TOWN + ";street c ^p 5 breaks 5");
        D.fault(1, MAN + ";shard n^");
        D.fault(1, SMALL + ";person ^pane");
        D.fault(1, TOWN + ";street c d ^100");
    }

    private static void formOfAByte() {
        D.says("I", "1 FORM: the first byte that begins no TOKEN");
        String text = Full.CITY;
        for (int place = 0; place < text.length(); place++) {
            if (" ;,".indexOf(text.charAt(place)) >= 0) {
                D.fault(1, text.substring(0, place) + "^#" + text.substring(place + 1));
            }
        }
        D.fault(1, "^#" + SMALL);
        D.fault(1, SMALL + "^#");
        D.fault(1, SMALL + ";^#");
        D.fault(1, "city wide 2^#");
        D.fault(1, "city wide ^222#");
        D.fault(1, SMALL + ";word ^waytoolong#");
    }

    private static void formOfATokenInTheCity() {
        D.says("I", "or TOKEN with which no CITY goes on");
        String[] tokens = {"city", "wide", "2", "high", "2", "hail", "50", "ice", "2"};
        StringBuilder before = new StringBuilder();
        for (int i = 0; i < tokens.length; i++) {
            boolean number = tokens[i].matches("[0-9]+");
            for (String wrong : new String[] {";", ",", number ? "two" : "7", "town", "pan"}) {
                D.fault(1, before + "^" + wrong + " 2");
            }
            before.append(tokens[i]).append(' ');
        }
        D.fault(1, before + "^3");
        D.fault(1, before + "^pane");
        D.fault(1, before + "^,");
    }

    private static void formOfATokenInALine() {
        D.says("I", "or TOKEN with which no CITY goes on");
        String[] lines = {"pane q plain xo , ox", "word w xo , ox", "view u xo , ox", "corner e v",
            "street c d 5 breaks 5", "thief c", "sent p c d", "person m", "shard n xm , mo", "shelf 5"};
        String town = TOWN + ";person n;";
        for (String line : lines) {
            String[] tokens = line.split(" ");
            StringBuilder before = new StringBuilder(town);
            for (String token : tokens) {
                boolean number = token.matches("[0-9]+");
                for (String wrong : new String[] {";", token.equals(",") ? "xo" : ",", number ? "five" : "5"}) {
                    boolean tooFew = wrong.equals(";") && token.equals(",");
                    D.fault(tooFew ? 6 : 1, before + "^" + wrong + " oo");
                }
                before.append(token).append(' ');
            }
            D.good(before.toString(), line.startsWith("pane") ? 2 : 1);
            D.fault(1, before + "^xo");
            D.fault(1, before + "^,");
            D.fault(1, before + "^5");
        }
    }

    private static void formAtTheEnd() {
        D.says("I", "(the end: its place).");
        D.fault(1, "^");
        D.fault(1, "  ^");
        D.fault(1, "city^");
        D.fault(1, "city  ^");
        D.fault(1, "city wide 2 high 2 hail 0 ice^");
        D.fault(1, "city wide 2 high 2 hail 0 ice   ^");
        D.fault(1, SMALL + ";^");
        D.fault(1, SMALL + ";     ^");
        D.fault(1, TOWN + ";street c d 5 breaks^");
        D.fault(1, TOWN + ";street c d 5 breaks ^");
        D.fault(1, " ".repeat(1100) + "^");
    }

    private static void notTold() {
        D.says("I", "2 a NAME that isn't told");
        D.fault(2, TOWN + ";corner e ^u");
        D.fault(2, TOWN + ";street ^e d 5 breaks 5");
        D.fault(2, TOWN + ";street c ^e 5 breaks 5");
        D.fault(2, TOWN + ";thief ^e");
        D.fault(2, TOWN + ";sent ^q c d");
        D.fault(2, TOWN + ";sent p ^e d");
        D.fault(2, TOWN + ";sent p c ^e");
        D.fault(2, TOWN + ";shard ^n xo,ox");
        D.fault(2, TOWN + ";thief ^cc");
        D.fault(2, TOWN + ";thief ^plain");
        D.fault(2, TOWN + ";corner corn v;thief ^cor");
        D.fault(2, TOWN + ";corner abcdefgh v;thief ^abcdefg");
        D.fault(2, TOWN + ";corner abcdefgh v;thief ^bcdefgh");
        D.fault(2, TOWN + ";corner abcdefgh v;thief ^abcdefgi");
        GlassPost g = Due.of(TOWN);
        D.refused(g, "names of a city that stood aren't told", Due.city(g, SMALL + ";thief c"), 4);
        D.due("fault()", g.fault(), 2);
        D.refused(g, "nor those of a text with a fault", Due.city(g, SMALL + ";corner x v"), 4);
        D.due("fault()", g.fault(), 2);
    }

    private static void ofAnotherSort() {
        D.says("I", ", or is of another sort than must stand there; at it.");
        String all = TOWN + ";word w xo,ox;person n";
        for (String name : new String[] {"p", "c", "w", "n"}) {
            D.fault(2, all + ";corner e ^" + name);
        }
        for (String name : new String[] {"p", "v", "w", "n"}) {
            D.fault(2, all + ";street ^" + name + " d 5 breaks 5");
            D.fault(2, all + ";street c ^" + name + " 5 breaks 5");
            D.fault(2, all + ";thief ^" + name);
            D.fault(2, all + ";sent p ^" + name + " d");
            D.fault(2, all + ";sent p c ^" + name);
        }
        for (String name : new String[] {"v", "c", "w", "n"}) {
            D.fault(2, all + ";sent ^" + name + " c d");
        }
        for (String name : new String[] {"p", "v", "c", "w"}) {
            D.fault(2, all + ";shard ^" + name + " xo,ox");
        }
        D.fault(2, all + ";corner e ^e");
    }

    private static void toldAgain() {
        D.says("I", "3 a NAME told again; at it;");
        D.fault(3, SMALL + ";pane ^p");
        D.fault(3, SMALL + ";word ^p");
        D.fault(3, SMALL + ";view ^p 5");
        D.fault(3, SMALL + ";corner ^p");
        D.fault(3, SMALL + ";person ^p");
        D.fault(3, MAN + ";pane ^n plain xo,ox");
        D.fault(3, TOWN + ";corner ^c v");
        D.fault(3, TOWN + ";corner ^v v");
        D.fault(3, SMALL + ";person abcdefgh;person ^abcdefgh");
    }

    private static void streetAgain() {
        D.says("I", "a second CORNER of a street that is the first, or to which there is a street already; at it;");
        D.fault(3, TOWN + ";street c ^c");
        D.fault(3, TOWN + ";street d ^d 5 breaks 5");
        D.fault(3, TOWN + ";street c d 1 breaks 0;street c ^d");
        D.fault(3, TOWN + ";street c d 1 breaks 0;street d ^c");
        D.fault(3, TOWN + ";corner e v;street c e 1 breaks 0;street d c 1 breaks 0;street e ^c");
        D.fault(4, TOWN + ";corner e v;street c e 1 breaks 0;street d c 1 breaks 0;street e d ^0");
        D.fault(4, TOWN + ";street c d ^0 breaks 0;street c d 1 breaks 0");
    }

    private static void thiefAgain() {
        D.says("I", "a CORNER that has a thief already; at it;");
        D.fault(3, TOWN + ";thief c;thief ^c");
        D.fault(3, TOWN + ";thief c;thief d;thief ^c");
        D.fault(3, TOWN + ";thief c;thief d;thief ^d");
        D.good(TOWN + ";thief d;thief c", 1);
        GlassPost g = Due.of(TOWN + ";thief c");
        D.fine(g, "a thief of a city that stood is none", Due.city(g, TOWN + ";thief c"), 1);
        D.refused(g, "a thief of a text with a fault", Due.city(g, TOWN + ";thief d;"), 4);
        D.fine(g, "is none", Due.city(g, TOWN + ";thief d"), 1);
    }

    private static void secondCityOrShelf() {
        D.says("I", "a second city, shelf: at that WORD.");
        D.fault(3, HEAD + ";^city");
        D.fault(3, HEAD + ";" + "^" + HEAD);
        D.fault(3, SMALL + ";  ^city #");
        D.fault(3, SMALL + ";shelf 5;^shelf");
        D.fault(3, SMALL + ";shelf 5;word w xo,ox;  ^shelf 100");
        D.fault(3, SMALL + ";shelf 0;^shelf 0");
        D.good(SMALL + ";shelf 0;word shelfs xo,ox", 1);
        GlassPost g = Due.of(SMALL + ";shelf 5");
        D.fine(g, "the shelf of a city that stood is no first", Due.city(g, SMALL + ";shelf 5"), 1);
    }

    private static void outOfBounds() {
        D.says("I", "4 a WHOLE out of bounds; at it.");
        D.fault(4, "city wide ^1");
        D.fault(4, "city wide ^6 #");
        D.fault(4, "city wide 2 high ^1");
        D.fault(4, "city wide 5 high ^5");
        D.fault(4, "city wide 5 high 4 hail 99 ice ^0");
        D.fault(4, "city wide 2 high 2 hail 0 ice ^61");
        D.fault(4, TOWN + ";street c d ^0");
        D.fault(4, TOWN + ";street c d 99 breaks ^51");
        D.fault(4, "city wide ^99#");
    }

    private static String lines(String line, int many) {
        StringBuilder text = new StringBuilder();
        for (int i = 0; i < many; i++) {
            text.append(";").append(line.replace('?', (char) ('a' + i)));
        }
        return text.toString();
    }

    private static void many() {
        D.says("I", "5 MANY: a LINE more of its sort than there is room for, at its first WORD.");
        String[] lines = {"pane q? ice xo,ox", "word q? xo,ox", "view q? xo,ox", "corner q? v", "sent p c d", "person q?",
            "shard n x?,ox"};
        int[] there = {1, 0, 1, 2, 0, 1, 0};
        int[] room = {8, 8, 6, 7, 6, 4, 8};
        String before = TOWN + ";person n";
        for (int i = 0; i < lines.length; i++) {
            String line = lines[i].replace("x?,", "xo,");
            String first = line.substring(0, line.indexOf(' '));
            int more = room[i] - there[i];
            D.good(before + lines(line, more - 1), i == 0 ? 7 : 1);
            D.good(before + lines(line, more), i == 0 ? 8 : 1);
            D.fault(5, before + lines(line, more) + ";^" + line.replace('?', 'z'));
            D.fault(5, before + lines(line, more) + " ;  ^" + first);
            D.fault(5, before + lines(line, more) + ";^" + first + " #");
            D.fault(5, before + lines(line, more) + ";^" + first + " 5;" + HEAD);
        }
        D.fault(5, Full.CITY.replace(";shelf 9", "") + ";^pane");
        D.fault(3, Full.CITY + ";^shelf");
    }

    private static void aheadOfTheCity() {
        D.says("I", "6 LACKS: any LINE ahead of the city; at its WORD;");
        for (String line : new String[] {"pane p plain xo,ox", "word w xo,ox", "view v xo,ox", "corner c v",
            "street a b 1 breaks 0", "thief c", "sent p c d", "person n", "shard n xo,ox", "shelf 5"}) {
            D.fault(6, "^" + line);
            D.fault(6, "   ^" + line + ";" + SMALL);
            D.fault(6, "^" + line.substring(0, line.indexOf(' ')) + "#");
        }
    }

    private static void rowsTooFew() {
        D.says("I", "ROWS of too few: at ; or the end behind them;");
        for (String line : new String[] {";pane q ice xo", ";word w xo", ";view u xo", ";person n;shard n xo"}) {
            D.fault(6, SMALL + line + "^");
            D.fault(6, SMALL + line + "    ^");
            D.fault(6, SMALL + line + "^;word");
            D.fault(6, SMALL + line + "    ^;");
            D.fault(1, SMALL + line + ",^;");
            D.fault(1, SMALL + line + ",^");
            D.fault(1, SMALL + line + " ^xo");
        }
        String high = "city wide 2 high 4 hail 0 ice 1;pane p ice xo";
        D.fault(6, high + "^");
        D.fault(6, high + ",ox^");
        D.fault(6, high + ",ox,xx^;");
        D.good(high + ",ox,xx,oo", 1);
    }

    private static void noPane() {
        D.says("I", "at the end: no pane.");
        D.fault(6, HEAD + "^");
        D.fault(6, HEAD + "   ^");
        D.fault(6, HEAD + ";word w xo,ox^");
        D.fault(6, HEAD + ";view v xo,ox;corner c v;thief c;person n;shard n xo,ox;shelf 5 ^");
        D.good(HEAD + ";view v xo,ox;corner c v;thief c;person n;shard n xo,ox;shelf 5;pane p ice oo,oo", 1);
        GlassPost g = Due.of(SMALL);
        D.refused(g, "the pane of a city that stood is none", Due.city(g, HEAD), 4);
        D.due("fault()", g.fault(), 6);
        D.due("where()", g.where(), HEAD.length());
        D.due("it stays", g.size(4), 1);
    }

    private static void rowOfOtherLetters() {
        D.says("I", "7 a ROW of other letters");
        D.fault(7, HEAD + ";pane p plain ^om,oo");
        D.fault(7, HEAD + ";pane p plain oo,^mo");
        D.fault(7, HEAD + ";pane p plain ^oz");
        D.fault(7, SMALL + ";word w ^py,oo");
        D.fault(7, SMALL + ";view w oo,^nw");
        D.fault(7, MAN + ";shard n ^ml,oo");
        D.fault(7, MAN + ";shard n mm,^nm");
        D.fault(7, "city wide 4 high 2 hail 0 ice 1;pane p ice oooo,^pane");
    }

    private static void rowOfMoreOrFewer() {
        D.says("I", ", or of more or fewer; at it;");
        D.fault(7, HEAD + ";pane p plain ^o,oo");
        D.fault(7, HEAD + ";pane p plain ^ooo,oo");
        D.fault(7, HEAD + ";pane p plain ^oooooooo,oo");
        D.fault(7, HEAD + ";pane p plain oo,^o");
        D.fault(7, HEAD + ";pane p plain oo,^ooo");
        D.fault(7, MAN + ";shard n ^m");
        D.fault(7, MAN + ";shard n mm,^mmm");
        D.fault(7, "city wide 5 high 2 hail 0 ice 1;pane p ice ooooo,^oooo");
        D.fault(7, "city wide 5 high 2 hail 0 ice 1;pane p ice ooooo,^oooooo");
    }

    private static void shardOfNothing() {
        D.says("I", "a shard that has nothing: at its WORD shard.");
        D.fault(7, MAN + ";^shard n mm,mm");
        D.fault(7, MAN + ";   ^shard   n   mm , mm   ");
        D.fault(7, MAN + ";shard n mm,mo;^shard n mm,mm;shard n xx,xx");
        D.fault(7, MAN + ";^shard n mm,mm;#");
        D.good(MAN + ";shard n mm,mo", 1);
        D.good(MAN + ";shard n xm,mm", 1);
        D.fault(7, "city wide 5 high 4 hail 0 ice 1;pane p ice ooooo,ooooo,ooooo,ooooo;person n"
                + ";^shard n mmmmm,mmmmm,mmmmm,mmmmm");
        GlassPost g = D.good("city wide 5 high 4 hail 0 ice 1;pane p ice ooooo,ooooo,ooooo,ooooo;person n"
                + ";shard n mmmmm,mmmmm,mmmmm,mmmmo", 1);
        D.fine(g, "it has the last cell", g.missing(), (1 << 19) - 1);
    }
}
