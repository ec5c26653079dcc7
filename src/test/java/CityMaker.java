import java.util.ArrayList;
import java.util.List;
import java.util.Random;

/** Makes texts of cities from a seed: small grids, so that words are often read and shards often fit. */
final class CityMaker {
    private final Random random;
    private int wide;
    private int high;

    CityMaker(long seed) {
        random = new Random(seed);
    }

    private int upTo(int most) {
        return random.nextInt(most + 1);
    }

    private String rows(String letters) {
        StringBuilder rows = new StringBuilder();
        for (int r = 0; r < high; r++) {
            rows.append(r == 0 ? "" : ",");
            for (int c = 0; c < wide; c++) {
                rows.append(letters.charAt(random.nextInt(letters.length())));
            }
        }
        return rows.toString();
    }

    /** Letters from which a grid is drawn: many, few or very few strokes. */
    private String mix() {
        String[] mixes = {"ox", "ooox", "oooooox", "oxxx"};
        return mixes[random.nextInt(mixes.length)];
    }

    String text(int mostCells) {
        do {
            wide = 2 + upTo(3);
            high = 2 + upTo(2);
        } while (wide * high > mostCells);
        List<String> lines = new ArrayList<>();
        String[] kinds = {"plain", "thick", "ice"};
        int panes = 1 + upTo(7);
        for (int i = 0; i < panes; i++) {
            lines.add("pane p" + letter(i) + " " + kinds[random.nextInt(3)] + " " + rows(mix()));
        }
        int words = upTo(8);
        for (int i = 0; i < words; i++) {
            lines.add("word w" + letter(i) + " " + rows(mix()));
        }
        int views = upTo(6);
        for (int i = 0; i < views; i++) {
            lines.add("view v" + letter(i) + " " + rows(mix()));
        }
        town(lines, panes, views);
        shards(lines);
        if (random.nextBoolean()) {
            lines.add("shelf " + upTo(random.nextBoolean() ? 99 : 20));
        }
        return "city wide " + wide + " high " + high + " hail " + upTo(99) + " ice " + (1 + upTo(59)) + ";"
                + String.join(";", lines);
    }

    private static char letter(int i) {
        return (char) ('a' + i);
    }

    private void town(List<String> lines, int panes, int views) {
        int corners = views == 0 ? 0 : upTo(7);
        for (int i = 0; i < corners; i++) {
            lines.add("corner c" + letter(i) + " v" + letter(random.nextInt(views)));
        }
        List<String> pairs = new ArrayList<>();
        int streets = corners < 2 ? 0 : upTo(12);
        int small = random.nextBoolean() ? 99 : 4;
        for (int i = 0; i < streets; i++) {
            int a = random.nextInt(corners);
            int b = random.nextInt(corners);
            String pair = Math.min(a, b) + " " + Math.max(a, b);
            if (a != b && !pairs.contains(pair)) {
                pairs.add(pair);
                lines.add("street c" + letter(a) + " c" + letter(b) + " " + (1 + upTo(small - 1))
                        + " breaks " + 10 * upTo(small == 4 ? 2 : 5));
            }
        }
        for (int i = 0; i < corners; i++) {
            if (random.nextInt(3) == 0) {
                lines.add("thief c" + letter(i));
            }
        }
        int letters = corners == 0 ? 0 : upTo(6);
        for (int i = 0; i < letters; i++) {
            lines.add("sent p" + letter(random.nextInt(panes)) + " c" + letter(random.nextInt(corners))
                    + " c" + letter(random.nextInt(corners)));
        }
    }

    private void shards(List<String> lines) {
        int people = upTo(4);
        for (int i = 0; i < people; i++) {
            lines.add("person n" + letter(i));
        }
        int shards = people == 0 ? 0 : upTo(8);
        String half = rows("om");
        for (int i = 0; i < shards; i++) {
            String rows = random.nextInt(4) == 0 ? rows("oxmmm") : half;
            if (i % 2 == 1) {
                rows = rows.replace('o', 'q').replace('m', 'o').replace('q', 'm');
            }
            StringBuilder strokes = new StringBuilder(rows);
            for (int k = 0; k < rows.length(); k++) {
                if (rows.charAt(k) == 'o' && random.nextBoolean()) {
                    strokes.setCharAt(k, 'x');
                }
            }
            if (!strokes.toString().replace(",", "").replace("m", "").isEmpty()) {
                lines.add("shard n" + letter(random.nextInt(people)) + " " + strokes);
            }
        }
    }

    /** One to three small wrongs. */
    String spoilt(String text) {
        StringBuilder s = new StringBuilder(text);
        String signs = " ;,oxmabc0159#";
        String[] pieces = {";", ",", " ", "city", "pane", "shelf 5", ";thief ca", "word", "99", "100", "0", "xo", "mm",
            ";pane z plain ", ";view z ", ";shard na ", ";street ca cb 5 breaks 5", ";sent pa ca cb", ";person z",
            ";corner z va", "abcdefghi", "\u00e9"};
        int times = 1 + upTo(2);
        for (int i = 0; i < times && s.length() > 0; i++) {
            int at = random.nextInt(s.length());
            switch (upTo(6)) {
                case 0: s.setCharAt(at, signs.charAt(random.nextInt(signs.length()))); break;
                case 1: s.deleteCharAt(at); break;
                case 2: s.insert(at, pieces[random.nextInt(pieces.length)]); break;
                case 3: s.setLength(at); break;
                case 4: otherNumber(s); break;
                case 5: crowd(s); break;
                default: swapLines(s);
            }
        }
        return s.toString();
    }

    private void otherNumber(StringBuilder s) {
        int at = random.nextInt(s.length());
        for (int i = at; i < s.length(); i++) {
            if (Character.isDigit(s.charAt(i))) {
                s.deleteCharAt(i);
                s.insert(i, String.valueOf(upTo(70)));
                return;
            }
        }
    }

    /** Lines of one sort more than there is room for, if all before them are good. */
    private void crowd(StringBuilder s) {
        String[] names = {"person", "corner", "view", "word", "pane", "sent pa ca ca", "shard na"};
        String name = names[random.nextInt(names.length)];
        for (int i = 0; i < 9; i++) {
            char c = letter(i);
            switch (name) {
                case "person": s.append(";person zz").append(c); break;
                case "corner": s.append(";corner zz").append(c).append(" va"); break;
                case "view":
                case "word": s.append(';').append(name).append(" zz").append(c).append(' ').append(rows("ox")); break;
                case "pane": s.append(";pane zz").append(c).append(" ice ").append(rows("ox")); break;
                case "shard": s.append(";shard na ").append(rows("ox")); break;
                default: s.append(";sent pa ca ca");
            }
        }
    }

    private void swapLines(StringBuilder s) {
        String[] lines = s.toString().split(";");
        int a = random.nextInt(lines.length);
        int b = random.nextInt(lines.length);
        String one = lines[a];
        if (random.nextBoolean()) {
            lines[a] = lines[b];
        }
        lines[b] = one;
        s.setLength(0);
        s.append(String.join(";", lines));
    }
}
