import java.io.IOException;
import java.lang.reflect.Constructor;
import java.lang.reflect.Field;
import java.lang.reflect.Method;
import java.lang.reflect.Modifier;
import java.nio.file.Files;
import java.nio.file.Path;
import java.util.ArrayList;
import java.util.List;
import java.util.Set;
import java.util.TreeSet;

/** The class has the document's face and no other member that can be seen. */
public final class FaceTest {
    private static final Due D = new Due("FaceTest");

    public static void main(String[] args) throws IOException {
        Class<?> c = GlassPost.class;
        D.due("public final class", Modifier.isPublic(c.getModifiers()) && Modifier.isFinal(c.getModifiers()), true);
        List<String> face = faceOfTheDocument();
        D.due("methods of the document", face.size(), 50);
        Set<String> wanted = new TreeSet<>(face);
        Set<String> shown = new TreeSet<>();
        Set<String> publicNames = new TreeSet<>();
        Set<String> privateNames = new TreeSet<>();
        for (Method m : c.getDeclaredMethods()) {
            if (Modifier.isPrivate(m.getModifiers())) {
                privateNames.add(m.getName());
            } else {
                shown.add(signature(m));
                publicNames.add(m.getName());
                D.due(m.getName() + " is public, not static", m.getModifiers() & ~Modifier.FINAL, Modifier.PUBLIC);
            }
        }
        Set<String> lacking = new TreeSet<>(wanted);
        lacking.removeAll(shown);
        Set<String> tooMany = new TreeSet<>(shown);
        tooMany.removeAll(wanted);
        D.due("methods that lack: " + lacking, lacking.size(), 0);
        D.due("methods too many: " + tooMany, tooMany.size(), 0);
        for (Class<?> inside : c.getDeclaredClasses()) {
            int bits = inside.getModifiers();
            D.due(inside + " is static, not public", Modifier.isStatic(bits) && !Modifier.isPublic(bits)
                    && !Modifier.isProtected(bits), true);
            for (Method m : inside.getDeclaredMethods()) {
                privateNames.add(m.getName());
            }
        }
        privateNames.retainAll(publicNames);
        D.due("private methods with a public one's name: " + privateNames, privateNames.size(), 0);
        fields(c);
        constructors(c);
        D.end();
    }

    /** The methods of the java block in the document, as "type name(types) throws". */
    private static List<String> faceOfTheDocument() throws IOException {
        List<String> face = new ArrayList<>();
        for (String line : Files.readAllLines(Path.of("../shared/DOC.md"))) {
            if (!line.startsWith("    public ") || line.contains("=") || line.contains("GlassPost()")) {
                continue;
            }
            String head = line.substring("    public ".length(), line.indexOf('('));
            String inside = line.substring(line.indexOf('(') + 1, line.indexOf(')'));
            StringBuilder types = new StringBuilder();
            for (String part : inside.isEmpty() ? new String[0] : inside.split(", ")) {
                types.append(part, 0, part.indexOf(' ')).append(' ');
            }
            face.add(head + "(" + types + ")" + (line.contains("throws") ? " throws" : ""));
        }
        return face;
    }

    private static String signature(Method m) {
        StringBuilder types = new StringBuilder();
        for (Class<?> t : m.getParameterTypes()) {
            types.append(t.getName()).append(' ');
        }
        String thrown = "";
        for (Class<?> t : m.getExceptionTypes()) {
            thrown += t == java.util.NoSuchElementException.class ? " throws" : " throws " + t;
        }
        return m.getReturnType().getName() + " " + m.getName() + "(" + types + ")" + thrown;
    }

    private static void fields(Class<?> c) {
        for (Field f : c.getDeclaredFields()) {
            int bits = f.getModifiers();
            if (f.getName().equals("NONE")) {
                D.due("NONE is a public constant int", f.getType() == int.class
                        && bits == (Modifier.PUBLIC | Modifier.STATIC | Modifier.FINAL), true);
            } else {
                D.due(f.getName() + " is private", Modifier.isPrivate(bits), true);
                D.due(f.getName() + " is final if static", !Modifier.isStatic(bits) || Modifier.isFinal(bits), true);
            }
        }
        D.due("NONE", GlassPost.NONE, -1);
    }

    private static void constructors(Class<?> c) {
        Constructor<?>[] all = c.getDeclaredConstructors();
        D.due("constructors", all.length, 1);
        D.due("its parameters", all[0].getParameterCount(), 0);
        D.due("it is public", Modifier.isPublic(all[0].getModifiers()), true);
    }
}
