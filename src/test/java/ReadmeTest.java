import java.io.ByteArrayOutputStream;
import java.io.IOException;
import java.io.PrintStream;
import java.lang.reflect.Method;
import java.lang.reflect.Modifier;
import java.net.URL;
import java.net.URLClassLoader;
import java.nio.file.DirectoryStream;
import java.nio.file.Files;
import java.nio.file.Path;
import java.util.Comparator;
import java.util.List;
import java.util.stream.Stream;
import javax.tools.JavaCompiler;
import javax.tools.ToolProvider;

/** What README.md says of the class's use is so: its program prints what stands there, and nothing is left out. */
public final class ReadmeTest {
    private static final Due D = new Due("ReadmeTest");

    public static void main(String[] args) throws Exception {
        String readme = Files.readString(Path.of("README.md"));
        theProgramPrintsWhatStandsThere(readme);
        eachCallIsNamed(readme);
        eachTestIsNamed(readme);
        eachTroubleHasARow(readme);
        D.due("how the tests are run", readme.contains("bash .ci/run"), true);
        D.end();
    }

    private static void theProgramPrintsWhatStandsThere(String readme) throws Exception {
        Path room = Files.createTempDirectory("readme");
        Path program = room.resolve("Example.java");
        Files.writeString(program, block(readme, "java"));
        JavaCompiler compiler = ToolProvider.getSystemJavaCompiler();
        int ended = compiler.run(null, null, null, "-cp", System.getProperty("java.class.path"),
                "-d", room.toString(), program.toString());
        D.due("README's program compiles", ended, 0);
        if (ended == 0) {
            List<String> printed = run(room).lines().toList();
            List<String> told = block(readme, "text").lines().toList();
            D.due("lines that README's program prints", printed.size(), told.size());
            for (int i = 0; i < Math.min(printed.size(), told.size()); i++) {
                D.due("README's program prints \"" + printed.get(i) + "\" where it tells \"" + told.get(i) + "\"",
                        printed.get(i).equals(told.get(i)), true);
            }
        }
        remove(room);
    }

    private static String run(Path room) throws Exception {
        PrintStream before = System.out;
        ByteArrayOutputStream printed = new ByteArrayOutputStream();
        try (URLClassLoader loader = new URLClassLoader(new URL[] {room.toUri().toURL()})) {
            Method main = loader.loadClass("Example").getMethod("main", String[].class);
            System.setOut(new PrintStream(printed, true));
            main.invoke(null, (Object) new String[0]);
        } finally {
            System.setOut(before);
        }
        return printed.toString();
    }

    private static void remove(Path room) throws IOException {
        try (Stream<Path> all = Files.walk(room)) {
            for (Path path : all.sorted(Comparator.reverseOrder()).toList()) {
                Files.delete(path);
            }
        }
    }

    /** The first block of a sort. */
    private static String block(String readme, String sort) {
        String opening = "\n```" + sort + "\n";
        int from = readme.indexOf(opening) + opening.length();
        int to = readme.indexOf("```", from);
        D.due("README has a block of " + sort, readme.contains(opening) && to > from, true);
        return readme.substring(from, to);
    }

    private static void eachCallIsNamed(String readme) {
        for (Method m : GlassPost.class.getDeclaredMethods()) {
            if (Modifier.isPublic(m.getModifiers())) {
                D.due("README names the call " + m.getName(), readme.contains("`" + m.getName() + "`"), true);
            }
        }
    }

    private static void eachTestIsNamed(String readme) throws IOException {
        try (DirectoryStream<Path> files = Files.newDirectoryStream(Path.of("src/test/java"), "*.java")) {
            for (Path file : files) {
                String name = file.getFileName().toString().replace(".java", "");
                D.due("README names " + name, readme.matches("(?s).*\\b" + name + "\\b.*"), true);
            }
        }
    }

    private static void eachTroubleHasARow(String readme) {
        for (int number = 0; number <= 6; number++) {
            D.due("README has a row of trouble " + number, readme.contains("\n| " + number + " | "), true);
        }
    }
}
