import java.io.IOException;
import java.nio.file.DirectoryStream;
import java.nio.file.Files;
import java.nio.file.Path;
import java.util.LinkedHashMap;
import java.util.Map;
import java.util.regex.Matcher;
import java.util.regex.Pattern;

/** Each sentence of the document's terms and promises is quoted by a test that is about it, and no quote is made up. */
public final class SentenceTest {
    private static final Due D = new Due("SentenceTest");
    private static final Pattern QUOTE = Pattern.compile("\\bD\\.says\\((?:(\\d+)|\"([^\"]+)\"), \"((?:[^\"\\\\]|\\\\.)*)\"\\);");

    public static void main(String[] args) throws IOException {
        Map<String, StringBuilder> sections = sections();
        D.due("sections", sections.size(), 51 + 4 + 2);
        Map<String, boolean[]> quoted = new LinkedHashMap<>();
        for (String name : sections.keySet()) {
            quoted.put(name, new boolean[sections.get(name).length()]);
        }
        int quotes = 0;
        try (DirectoryStream<Path> files = Files.newDirectoryStream(Path.of("src/test/java"), "*Test.java")) {
            for (Path file : files) {
                Matcher m = QUOTE.matcher(Files.readString(file));
                while (m.find()) {
                    String section = m.group(1) == null ? m.group(2) : m.group(1);
                    quote(file.getFileName() + "", section, m.group(3), sections, quoted);
                    quotes++;
                }
            }
        }
        D.due("there are many quotes: " + quotes, quotes > 150, true);
        for (String name : sections.keySet()) {
            unquoted(name, sections.get(name).toString(), quoted.get(name));
        }
        D.end();
    }

    private static void quote(String file, String section, String words, Map<String, StringBuilder> sections,
            Map<String, boolean[]> quoted) {
        int at = sections.containsKey(section) ? sections.get(section).indexOf(words) : -1;
        D.due(file + " quotes of " + section + ": " + words, at >= 0, true);
        for (int i = at; at >= 0 && i < at + words.length(); i++) {
            quoted.get(section)[i] = true;
        }
    }

    private static void unquoted(String name, String text, boolean[] quoted) {
        int start = -1;
        for (int i = 0; i <= text.length(); i++) {
            boolean open = i < text.length() && !quoted[i];
            if (open && start < 0) {
                start = i;
            }
            if (!open && start >= 0) {
                String piece = text.substring(start, i).replaceAll("[^A-Za-z0-9]", "");
                boolean said = piece.isEmpty() || piece.equals("or");
                D.due("of " + name + " no test is about: " + text.substring(start, i), said, true);
                start = -1;
            }
        }
    }

    /** The words of the terms I to IV, of the constants, of each promise behind its face, and of an object's use. */
    private static Map<String, StringBuilder> sections() throws IOException {
        Map<String, StringBuilder> sections = new LinkedHashMap<>();
        String name = "";
        for (String line : Files.readAllLines(Path.of("../shared/DOC.md"))) {
            Matcher term = Pattern.compile("^(I|II|III|IV)\\. (.*)").matcher(line);
            Matcher promise = Pattern.compile("^## Promise (\\d+):.*").matcher(line);
            String words = line.trim();
            if (line.startsWith("#") || line.startsWith("Ahead of the calls")) {
                name = promise.matches() ? promise.group(1) : "";
                continue;
            }
            if (term.matches()) {
                name = term.group(1);
                words = term.group(2);
            } else if (line.startsWith("The constants: ")) {
                name = "constants";
                words = line.substring("The constants: ".length());
            } else if (line.startsWith("An object is used for")) {
                name = "use";
                words = line.substring(0, line.indexOf(';'));
            } else if (words.startsWith("`") && !words.startsWith("```")) {
                words = words.substring(words.indexOf("`: ") + 3);
            }
            if (!name.isEmpty() && !words.isEmpty() && !words.startsWith("```")) {
                sections.computeIfAbsent(name, n -> new StringBuilder()).append(words).append(' ');
            }
        }
        return sections;
    }
}
