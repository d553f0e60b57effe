import java.io.ByteArrayOutputStream;
import java.io.PrintStream;
import java.lang.reflect.Method;
import java.lang.reflect.Modifier;
import java.net.URL;
import java.net.URLClassLoader;
import java.nio.charset.StandardCharsets;
import java.nio.file.Files;
import java.nio.file.Path;
import java.util.ArrayList;
import java.util.Collections;
import java.util.List;
import java.util.regex.MatchResult;
import java.util.regex.Pattern;
import java.util.stream.Stream;
import javax.tools.JavaCompiler;
import javax.tools.ToolProvider;

/** README.md: what it says is so when one does it. */
public final class ReadmeTest {
    private static final Pattern PROGRAM = Pattern.compile(
            "```java\n(public final class (\\w+) .*?)```\n\n[^`]*```text\n(.*?)```", Pattern.DOTALL);

    public static void main(String[] args) throws Exception {
        String page = Files.readString(Path.of("README.md"));
        List<MatchResult> programs = PROGRAM.matcher(page).results().toList();
        Check.same("programs of the page", (long) programs.size(), Pattern.compile("```java").matcher(page).results().count());
        for (MatchResult program : programs) {
            Check.same(program.group(2) + " prints", printed(program.group(2), program.group(1)), program.group(3));
        }
        Check.same("calls of the first table", firstCells(page, "calls"), face());
        Check.same("tests of the last table", firstCells(page, "test"), tests());
        Check.finish("ReadmeTest");
    }

    private static String printed(String name, String program) throws Exception {
        Path place = Files.createTempDirectory("readme");
        Path file = Files.writeString(place.resolve(name + ".java"), program);
        Path compiled = place.resolve(name + ".class");
        JavaCompiler compiler = ToolProvider.getSystemJavaCompiler();
        try {
            String classes = System.getProperty("java.class.path");
            Check.same(name + " compiles", compiler.run(null, null, null, "-cp", classes, "-d", place.toString(), file.toString()), 0);
            return run(name, place);
        } finally {
            Files.deleteIfExists(file);
            Files.deleteIfExists(compiled);
            Files.deleteIfExists(place);
        }
    }

    private static String run(String name, Path place) throws Exception {
        PrintStream before = System.out;
        ByteArrayOutputStream bytes = new ByteArrayOutputStream();
        try (URLClassLoader loader = new URLClassLoader(new URL[] {place.toUri().toURL()})) {
            Method main = loader.loadClass(name).getMethod("main", String[].class);
            System.setOut(new PrintStream(bytes, true, StandardCharsets.UTF_8));
            main.invoke(null, (Object) new String[0]);
        } finally {
            System.setOut(before);
        }
        return bytes.toString(StandardCharsets.UTF_8).replace(System.lineSeparator(), "\n");
    }

    /** The names in the first cells of the table with this heading, sorted. */
    private static List<String> firstCells(String page, String heading) {
        List<String> names = new ArrayList<>();
        boolean inside = false;
        for (String line : page.split("\n")) {
            inside = line.startsWith("| " + heading + " |") || inside && line.startsWith("|");
            if (inside) {
                Pattern.compile("`(\\w+)`").matcher(line.split("\\|")[1]).results().forEach(name -> names.add(name.group(1)));
            }
        }
        Collections.sort(names);
        return names;
    }

    private static List<String> face() {
        return Stream.of(PastryBench.class.getDeclaredMethods()).filter(method -> Modifier.isPublic(method.getModifiers()))
                .map(Method::getName).sorted().toList();
    }

    private static List<String> tests() throws Exception {
        try (Stream<Path> files = Files.list(Path.of("src", "test", "java"))) {
            return files.map(file -> file.getFileName().toString()).filter(name -> name.endsWith("Test.java"))
                    .map(name -> name.replace(".java", "")).sorted().toList();
        }
    }
}
