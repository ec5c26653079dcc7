import java.io.IOException;
import java.lang.reflect.Field;
import java.lang.reflect.Method;
import java.lang.reflect.Modifier;
import java.nio.file.Files;
import java.nio.file.Path;
import java.util.ArrayList;
import java.util.List;
import java.util.regex.Matcher;
import java.util.regex.Pattern;

/** The class keeps to LANGUAGE.md, as far as its text and its members show. */
public final class FormTest {
    private static final Due D = new Due("FormTest");

    private static final String[] RULED_OUT = {
        "->", "::", "\\bcatch\\b", "\\btry\\b", "\\bfinally\\b", "\\bsynchronized\\b", "\\bassert\\b", "\\bvolatile\\b",
        "\\binstanceof\\b", "\\bnative\\b", "\\bdouble\\b", "\\bfloat\\b", "static \\{", "Exact\\(", "\\bSystem\\.(?!arraycopy)",
        "\\bThread\\b", "Random", "\\bgetClass\\b", "hashCode", "toString", "\\.equals\\(", "\" \\+", "\\+ \"", "Object\\b",
        "\\bvar\\b", "while \\(true\\)", "for \\(;;\\)", "\\bpackage\\b", "@"};

    public static void main(String[] args) throws IOException {
        String source = Files.readString(Path.of("src/main/java/GlassPost.java"));
        String code = source.replaceAll("(?s)/\\*.*?\\*/", "").replaceAll("//[^\n]*", "");
        for (String ruledOut : RULED_OUT) {
            Matcher m = Pattern.compile(ruledOut).matcher(code);
            D.due("ruled out: " + ruledOut, m.find(), false);
        }
        D.due("signs 1 to 127 alone", source.chars().allMatch(c -> c >= 1 && c <= 127), true);
        imports(code);
        throwsOnce(code);
        methodsAreShort(code);
        classes();
        namesOfTheFaceStandOnce();
        D.end();
    }

    private static void imports(String code) {
        Matcher m = Pattern.compile("(?m)^import (.*);").matcher(code);
        List<String> all = new ArrayList<>();
        while (m.find()) {
            all.add(m.group(1));
        }
        D.due("imports " + all, all.equals(List.of("java.util.NoSuchElementException")), true);
    }

    private static void throwsOnce(String code) {
        D.due("throw statements", code.split("\\bthrow\\b", -1).length - 1, 1);
        D.due("it is led's", code.contains("throw new NoSuchElementException();"), true);
    }

    private static void methodsAreShort(String code) {
        String[] lines = code.split("\n");
        String name = null;
        int start = 0;
        String indent = "";
        for (int i = 0; i < lines.length; i++) {
            Matcher m = Pattern.compile("^( {4}| {8})(?:[a-z]+ )*\\S+ ?\\S*\\(.*\\).* \\{$").matcher(lines[i]);
            if (name == null && m.find() && !lines[i].contains(" class ")) {
                name = lines[i].trim();
                start = i;
                indent = m.group(1);
                int commas = lines[i].substring(lines[i].indexOf('('), lines[i].indexOf(')')).split(",").length;
                D.due("at most seven parameters: " + name, commas <= 7, true);
            } else if (name != null && lines[i].equals(indent + "}")) {
                D.due("at most sixty lines: " + name, i - start + 1 <= 60, true);
                name = null;
            }
        }
    }

    /** Rule 1: no method of the class's own, inside either, bears the name of a call. */
    private static void namesOfTheFaceStandOnce() {
        List<String> face = new ArrayList<>();
        for (Method m : GlassPost.class.getDeclaredMethods()) {
            if (Modifier.isPublic(m.getModifiers())) {
                D.due(m.getName() + " stands once", face.contains(m.getName()), false);
                face.add(m.getName());
            }
        }
        List<Class<?>> all = new ArrayList<>(List.of(GlassPost.class.getDeclaredClasses()));
        all.add(GlassPost.class);
        for (Class<?> c : all) {
            for (Method m : c.getDeclaredMethods()) {
                boolean ofTheFace = c == GlassPost.class && Modifier.isPublic(m.getModifiers());
                D.due(m + " bears no call's name", !ofTheFace && face.contains(m.getName()), false);
            }
        }
    }

    private static void classes() {
        List<Class<?>> all = new ArrayList<>(List.of(GlassPost.class.getDeclaredClasses()));
        all.add(GlassPost.class);
        D.due("at most twelve classes: " + all.size(), all.size() <= 12, true);
        for (Class<?> c : all) {
            int fields = 0;
            for (Field f : c.getDeclaredFields()) {
                boolean constant = Modifier.isStatic(f.getModifiers());
                fields += constant ? 0 : 1;
                D.due(c + " " + f.getName() + " is final if static", !constant || Modifier.isFinal(f.getModifiers()), true);
                D.due(c + " " + f.getName() + " is a constant if static", !constant || f.getType() == int.class
                        || f.getType() == long.class, true);
            }
            D.due(c + " has " + fields + " fields, at most twenty", fields <= 20, true);
            for (Method m : c.getDeclaredMethods()) {
                D.due(m + " is no bridge", m.isSynthetic(), false);
            }
        }
    }
}
