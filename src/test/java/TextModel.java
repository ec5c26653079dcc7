import java.util.ArrayList;
import java.util.HashMap;
import java.util.List;
import java.util.Map;
import java.util.regex.Matcher;
import java.util.regex.Pattern;

/** A second reader of texts, driven by a table of what stands in each line. */
final class TextModel {
    private static final Pattern TOKEN = Pattern.compile("\\G *(?:([a-z]+)|([0-9]+)|([;,])|(.)|\\z)", Pattern.DOTALL);
    private static final Map<String, String> LINES = new HashMap<>();
    private static final Map<String, Integer> ROOM = new HashMap<>();

    static {
        LINES.put("city", "wide #2-5 high #2-4 hail #0-99 ice #1-60");
        LINES.put("pane", "+pane KIND ROWS");
        LINES.put("word", "+word ROWS");
        LINES.put("view", "+view ROWS");
        LINES.put("corner", "+corner -view");
        LINES.put("street", "-corner OTHER #1-99 breaks #0-50");
        LINES.put("thief", "THIEF");
        LINES.put("sent", "-pane -corner -corner");
        LINES.put("person", "+person");
        LINES.put("shard", "-person SHARDROWS");
        LINES.put("shelf", "#0-99");
        ROOM.put("pane", 8);
        ROOM.put("word", 8);
        ROOM.put("view", 6);
        ROOM.put("corner", 7);
        ROOM.put("street", 12);
        ROOM.put("sent", 6);
        ROOM.put("person", 4);
        ROOM.put("shard", 8);
    }

    private static final class Fault extends Exception {
        private static final long serialVersionUID = 1L;
        final int number;
        final int place;

        Fault(int number, int place) {
            this.number = number;
            this.place = place;
        }
    }

    private final String text;
    private final Matcher matcher;
    private String token;
    private char sort;
    private int place;
    private final Map<String, String> names = new HashMap<>();
    private final Map<String, Integer> numbers = new HashMap<>();
    private final List<String> streetPairs = new ArrayList<>();

    /** The lines of each sort, each as its parts: numbers, numbers of names, or rows as one text. */
    final Map<String, List<List<Object>>> lines = new HashMap<>();
    int fault = 0;
    int where = -1;

    TextModel(String text) {
        this.text = text;
        matcher = TOKEN.matcher(text);
        for (String sortOfLine : LINES.keySet()) {
            lines.put(sortOfLine, new ArrayList<>());
        }
        try {
            next();
            whole();
        } catch (Fault f) {
            fault = f.number;
            where = f.place;
        }
    }

    int many(String sortOfLine) {
        return lines.get(sortOfLine).size();
    }

    private void next() {
        if (!matcher.find()) {
            throw new IllegalStateException("no token");
        }
        sort = 'e';
        token = "";
        place = text.length();
        String sorts = "w#s?";
        for (int i = 1; i <= 4; i++) {
            if (matcher.group(i) != null) {
                token = matcher.group(i);
                place = matcher.start(i);
                sort = sorts.charAt(i - 1);
            }
        }
        if (sort == 'w' && token.length() > 8 || sort == '#' && token.length() > 2) {
            sort = '?';
        }
    }

    private void whole() throws Fault {
        boolean first = true;
        while (true) {
            line(first);
            first = false;
            if (sort == 'e') {
                break;
            }
            form(token.equals(";"));
            next();
        }
        if (lines.get("pane").isEmpty()) {
            throw new Fault(6, place);
        }
    }

    private void form(boolean fits) throws Fault {
        if (!fits) {
            throw new Fault(1, place);
        }
    }

    private void line(boolean first) throws Fault {
        form(sort == 'w' && LINES.containsKey(token));
        String kind = token;
        int start = place;
        if (first && !kind.equals("city")) {
            throw new Fault(6, place);
        }
        if (!first && kind.equals("city") || kind.equals("shelf") && many("shelf") == 1) {
            throw new Fault(3, place);
        }
        if (ROOM.containsKey(kind) && many(kind) == ROOM.get(kind)) {
            throw new Fault(5, place);
        }
        next();
        List<Object> parts = new ArrayList<>();
        for (String item : LINES.get(kind).split(" ")) {
            part(item, kind, parts, start);
        }
        lines.get(kind).add(parts);
    }

    private void part(String item, String kind, List<Object> parts, int start) throws Fault {
        if (item.startsWith("#")) {
            form(sort == '#');
            String[] ends = item.substring(1).split("-");
            int value = Integer.parseInt(token);
            if (value < Integer.parseInt(ends[0]) || value > Integer.parseInt(ends[1])) {
                throw new Fault(4, place);
            }
            parts.add(value);
            next();
        } else if (item.startsWith("+")) {
            form(sort == 'w' && !LINES.containsKey(token));
            if (names.containsKey(token)) {
                throw new Fault(3, place);
            }
            names.put(token, item.substring(1));
            numbers.put(token, many(kind));
            next();
        } else if (item.startsWith("-")) {
            parts.add(known(item.substring(1)));
            next();
        } else if (item.equals("OTHER")) {
            int other = known("corner");
            int one = (Integer) parts.get(0);
            String pair = Math.min(one, other) + " " + Math.max(one, other);
            if (one == other || streetPairs.contains(pair)) {
                throw new Fault(3, place);
            }
            streetPairs.add(pair);
            parts.add(other);
            next();
        } else if (item.equals("THIEF")) {
            int corner = known("corner");
            for (List<Object> thief : lines.get("thief")) {
                if ((Integer) thief.get(0) == corner) {
                    throw new Fault(3, place);
                }
            }
            parts.add(corner);
            next();
        } else if (item.equals("KIND")) {
            List<String> kinds = List.of("plain", "thick", "ice");
            form(sort == 'w' && kinds.contains(token));
            parts.add(kinds.indexOf(token));
            next();
        } else if (item.equals("ROWS")) {
            parts.add(rows("[ox]"));
        } else if (item.equals("SHARDROWS")) {
            String rows = rows("[oxm]");
            if (rows.replace("m", "").isEmpty()) {
                throw new Fault(7, start);
            }
            parts.add(rows);
        } else {
            form(sort == 'w' && token.equals(item));
            next();
        }
    }

    private int known(String kind) throws Fault {
        form(sort == 'w' && !LINES.containsKey(token));
        if (!kind.equals(names.get(token))) {
            throw new Fault(2, place);
        }
        return numbers.get(token);
    }

    private String rows(String letter) throws Fault {
        List<Object> city = lines.get("city").get(0);
        int wide = (Integer) city.get(0);
        int high = (Integer) city.get(1);
        StringBuilder all = new StringBuilder();
        for (int r = 1; r <= high; r++) {
            form(sort == 'w');
            if (!token.matches(letter + "{" + wide + "}")) {
                throw new Fault(7, place);
            }
            all.append(token);
            next();
            if (r < high) {
                if (sort == 'e' || token.equals(";")) {
                    throw new Fault(6, place);
                }
                form(token.equals(","));
                next();
            }
        }
        return all.toString();
    }
}
