import java.io.ByteArrayOutputStream;
import java.io.IOException;
import java.io.PrintStream;
import java.net.URL;
import java.net.URLClassLoader;
import java.nio.charset.StandardCharsets;
import java.nio.file.Files;
import java.nio.file.Path;
import java.util.ArrayList;
import java.util.Comparator;
import java.util.List;
import java.util.stream.Collectors;
import java.util.stream.Stream;
import javax.tools.ToolProvider;

/**
 * The example of README.md is compiled and run as it stands there: what it prints, line by line, is what the
 * comments behind its println calls say.
 */
public final class ReadmeTest {
    private static final String PRINTS = "System.out.println(";
    private static final String SAYS = "// ";

    public static void main(String[] args) throws Exception {
        List<String> example = block(Files.readAllLines(Path.of("README.md")), "```java");
        List<String> said = answers(example);
        Pair.due("README.md's example gives answers", "" + !said.isEmpty(), "true");
        List<String> printed = run(example);
        Pair.due("the lines that README.md's example prints", "" + printed.size(), "" + said.size());
        for (int i = 0; i < Math.min(printed.size(), said.size()); i++) {
            Pair.due("README.md's example, line " + (i + 1), said.get(i), printed.get(i));
        }
        Pair.end();
    }

    /** The lines between the only fence that begins so and the one that ends it. */
    private static List<String> block(List<String> lines, String fence) {
        int from = lines.indexOf(fence);
        Pair.due("README.md has one example", from + " " + lines.lastIndexOf(fence), from + " " + Math.max(0, from));
        List<String> behind = lines.subList(from + 1, lines.size());
        return behind.subList(0, Math.max(0, behind.indexOf("```")));
    }

    private static List<String> answers(List<String> example) {
        List<String> said = new ArrayList<>();
        for (String line : example) {
            if (line.contains(PRINTS)) {
                int at = line.indexOf(SAYS);
                said.add(at < 0 ? "no answer beside " + line.strip() : line.substring(at + SAYS.length()));
            }
        }
        return said;
    }

    private static List<String> run(List<String> example) throws Exception {
        Path room = Files.createTempDirectory("readme");
        try {
            Path source = Files.write(room.resolve("Example.java"), example);
            String classes = System.getProperty("java.class.path");
            int code = ToolProvider.getSystemJavaCompiler().run(null, null, null,
                "-Xlint:all", "-Werror", "-cp", classes, "-d", room.toString(), source.toString());
            Pair.due("README.md's example compiles", "" + code, "0");
            return code == 0 ? printed(room) : List.of();
        } finally {
            remove(room);
        }
    }

    private static List<String> printed(Path classes) throws Exception {
        ByteArrayOutputStream bytes = new ByteArrayOutputStream();
        PrintStream screen = System.out;
        System.setOut(new PrintStream(bytes, true, StandardCharsets.UTF_8));
        try (URLClassLoader loader = new URLClassLoader(new URL[] {classes.toUri().toURL()})) {
            loader.loadClass("Example").getMethod("main", String[].class).invoke(null, (Object) new String[0]);
        } finally {
            System.setOut(screen);
        }
        return bytes.toString(StandardCharsets.UTF_8).lines().collect(Collectors.toList());
    }

    private static void remove(Path room) throws IOException {
        try (Stream<Path> all = Files.walk(room)) {
            for (Path each : all.sorted(Comparator.reverseOrder()).collect(Collectors.toList())) {
                Files.delete(each);
            }
        }
    }
}
