import java.io.IOException;
import java.lang.reflect.Method;
import java.lang.reflect.Modifier;
import java.net.URL;
import java.net.URLClassLoader;
import java.nio.file.Files;
import java.nio.file.Path;
import java.util.ArrayList;
import java.util.Comparator;
import java.util.List;
import java.util.regex.Matcher;
import java.util.regex.Pattern;
import java.util.stream.Stream;
import javax.tools.ToolProvider;

/**
 * What README.md shows is so: its Java is put into a program of its own, in its order, compiled and run, and each line
 * answers what its comment says.
 */
public final class ReadmeTest {
    private static final Path README = Path.of("README.md");
    private static final Pattern LINE = Pattern.compile("(\\S.*?);\\s*//\\s*(-?[0-9]+|NONE|BAD|STATE|FULL)\\b.*");

    private final StringBuilder methods = new StringBuilder();
    private final StringBuilder statements = new StringBuilder();
    private final List<String> shown = new ArrayList<>();
    private final List<Long> said = new ArrayList<>();

    public static void main(String[] args) throws Exception {
        ReadmeTest test = new ReadmeTest();
        test.read(Files.readAllLines(README));
        test.answersAreSo();
        test.everyCallIsShown();
        everyTestIsNamed();
        Check.end("ReadmeTest");
    }

    private void read(List<String> lines) {
        boolean within = false;
        boolean method = false;
        for (int i = 0; i < lines.size(); i++) {
            String line = lines.get(i);
            if (line.startsWith("```")) {
                within = line.equals("```java");
                method = within && i + 1 < lines.size() && lines.get(i + 1).startsWith("static ");
            } else if (within && method) {
                methods.append(line).append('\n');
            } else if (within) {
                statement(line, i + 1);
            }
        }
        Check.due("README.md shows something", said.isEmpty() ? 0 : 1, 1);
    }

    /** A line that calls says what it answers; only an object that is made says nothing. */
    private void statement(String line, int number) {
        Matcher found = LINE.matcher(line);
        if (found.matches()) {
            statements.append("all.add((long) ").append(found.group(1)).append(");\n");
            shown.add("README.md, line " + number + ": " + found.group(1));
            said.add(number(found.group(2)));
        } else {
            Check.due("README.md, line " + number + " says its answer", line.matches("AntBand x = .*;") ? 1 : 0, 1);
            statements.append(line).append('\n');
        }
    }

    private static long number(String said) {
        switch (said) {
            case "NONE":
                return Check.NONE;
            case "BAD":
                return Check.BAD;
            case "STATE":
                return Check.STATE;
            case "FULL":
                return Check.FULL;
            default:
                return Long.parseLong(said);
        }
    }

    private void answersAreSo() throws Exception {
        List<?> answers = run();
        Check.due("README.md: as many answers as are said", answers.size(), said.size());
        for (int i = 0; i < answers.size(); i++) {
            Check.due(shown.get(i), (Long) answers.get(i), said.get(i));
        }
    }

    private List<?> run() throws Exception {
        Path dir = Files.createTempDirectory("readme");
        try {
            Path file = dir.resolve("Shown.java");
            Files.writeString(file, "public class Shown {\n" + methods + "public static java.util.List<Long> all() {\n"
                    + "java.util.List<Long> all = new java.util.ArrayList<>();\n" + statements + "return all;\n}\n}\n");
            int failed = ToolProvider.getSystemJavaCompiler().run(null, null, null, "-d", dir.toString(),
                    "-cp", System.getProperty("java.class.path"), file.toString());
            Check.due("README.md: what it shows compiles", failed, 0);
            if (failed != 0) {
                return List.of();
            }
            try (URLClassLoader loader = new URLClassLoader(new URL[] {dir.toUri().toURL()})) {
                return (List<?>) loader.loadClass("Shown").getMethod("all").invoke(null);
            }
        } finally {
            remove(dir);
        }
    }

    private static void remove(Path dir) throws IOException {
        try (Stream<Path> all = Files.walk(dir)) {
            for (Path one : all.sorted(Comparator.reverseOrder()).toList()) {
                Files.delete(one);
            }
        }
    }

    private void everyCallIsShown() {
        for (Method one : AntBand.class.getDeclaredMethods()) {
            if (Modifier.isPublic(one.getModifiers())) {
                boolean is = (methods.toString() + statements).contains("." + one.getName() + "(");
                Check.due("README.md shows " + one.getName(), is ? 1 : 0, 1);
            }
        }
    }

    private static void everyTestIsNamed() throws IOException {
        String text = Files.readString(README);
        try (Stream<Path> all = Files.list(Path.of("src/test/java"))) {
            for (Path one : all.toList()) {
                String name = one.getFileName().toString().replace(".java", "");
                boolean named = !name.endsWith("Test") || text.contains(name);
                Check.due("README.md names " + name, named ? 1 : 0, 1);
            }
        }
    }
}
