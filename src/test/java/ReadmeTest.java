import java.io.IOException;
import java.lang.reflect.InvocationTargetException;
import java.lang.reflect.Method;
import java.lang.reflect.Modifier;
import java.net.URL;
import java.net.URLClassLoader;
import java.nio.file.Files;
import java.nio.file.Path;
import java.util.ArrayList;
import java.util.List;
import java.util.regex.Matcher;
import java.util.regex.Pattern;
import java.util.stream.Stream;
import javax.tools.JavaCompiler;
import javax.tools.ToolProvider;

/** Holds README.md to the class: its lines of Java are compiled and do what stands behind them. */
public final class ReadmeTest {
    private static final Path PAGE = Path.of("README.md");
    private static final Path TESTS = Path.of("src", "test", "java");
    private static final String PROGRAM = "ReadmeLines";
    private static final Pattern ANSWERED = Pattern.compile("(.*);\\s+// (?:(throws) )?(\"[^\"]*\"|[^,\\s]+),.*");
    private static final Pattern STARRED = Pattern.compile("`(\\w+)\\([^`]*\\)` \\*");
    private static final int FEWEST_LINES = 40;

    private ReadmeTest() {
    }

    public static void main(String[] args) throws IOException, ReflectiveOperationException {
        List<String> page = Files.readAllLines(PAGE);
        linesDoWhatIsSaid(page);
        tableHasAllCalls(page);
        starsMarkChanges(page);
        listHasAllTests(page);
        Check.end("ReadmeTest");
    }

    /** The program of the page calls this for each line with an answer. */
    public static void answers(String line, Object got, String due) {
        Check.equal("README.md: " + line, got instanceof String ? "\"" + got + "\"" : String.valueOf(got), due);
    }

    /** The program of the page calls this for each line that is to throw. */
    public static void refuses(String line, java.util.concurrent.Callable<Object> call, String due) {
        try {
            Check.fail("README.md: " + line + " answers " + call.call() + ", due is " + due);
        } catch (Exception e) {
            Check.equal("README.md: " + line, e.getClass().getSimpleName(), due);
        }
    }

    private static void linesDoWhatIsSaid(List<String> page) throws IOException, ReflectiveOperationException {
        StringBuilder methods = new StringBuilder();
        StringBuilder lines = new StringBuilder();
        for (List<String> block : blocks(page)) {
            boolean method = block.get(0).startsWith("static ");
            for (String line : block) {
                (method ? methods : lines).append(method ? line : checked(line)).append('\n');
            }
        }
        int before = Check.checks();
        run("public final class " + PROGRAM + " {\n" + methods
                + "public static void run() {\n" + lines + "}\n}\n");
        Check.isTrue("README.md has lines with answers", Check.checks() - before >= FEWEST_LINES);
    }

    private static List<List<String>> blocks(List<String> page) {
        List<List<String>> blocks = new ArrayList<>();
        List<String> block = null;
        for (String line : page) {
            if (line.equals("```java")) {
                block = new ArrayList<>();
                blocks.add(block);
            } else if (line.startsWith("```")) {
                block = null;
            } else if (block != null) {
                block.add(line);
            }
        }
        return blocks;
    }

    /** The line as Java that tells when the answer is another one. */
    private static String checked(String line) {
        Matcher parts = ANSWERED.matcher(line);
        if (!parts.matches()) {
            Check.isFalse("README.md: " + line + " tells its answer", line.startsWith("drive."));
            return line;
        }
        String call = parts.group(1);
        boolean throwing = parts.group(2) != null;
        return "ReadmeTest." + (throwing ? "refuses(" : "answers(") + quoted(call) + ", " + (throwing ? "() -> " : "")
                + call + ", " + quoted(parts.group(3)) + ");";
    }

    private static String quoted(String text) {
        return "\"" + text.replace("\\", "\\\\").replace("\"", "\\\"") + "\"";
    }

    private static void run(String program) throws IOException, ReflectiveOperationException {
        JavaCompiler compiler = ToolProvider.getSystemJavaCompiler();
        Check.isTrue("there is a compiler", compiler != null);
        if (compiler == null) {
            return;
        }
        Path folder = Files.createTempDirectory("readme");
        Path file = Files.writeString(folder.resolve(PROGRAM + ".java"), program);
        int failed = compiler.run(null, null, null, "-cp", System.getProperty("java.class.path"),
                "-d", folder.toString(), file.toString());
        Check.equal("errors in the lines of README.md", failed, 0);
        if (failed == 0) {
            call(folder);
        }
        Files.deleteIfExists(folder.resolve(PROGRAM + ".class"));
        Files.delete(file);
        Files.delete(folder);
    }

    private static void call(Path folder) throws IOException, ReflectiveOperationException {
        URL[] place = {folder.toUri().toURL()};
        try (URLClassLoader loader = new URLClassLoader(place, ReadmeTest.class.getClassLoader())) {
            loader.loadClass(PROGRAM).getMethod("run").invoke(null);
        } catch (InvocationTargetException e) {
            Check.fail("a line of README.md throws " + e.getCause());
        }
    }

    private static void tableHasAllCalls(List<String> page) {
        String rows = String.join("\n", page.stream().filter(line -> line.startsWith("| `")).toList());
        for (Method method : PlanetDrive.class.getDeclaredMethods()) {
            if (Modifier.isPublic(method.getModifiers())) {
                Matcher row = Pattern.compile("`" + method.getName() + "\\(([^`]*)\\)`").matcher(rows);
                boolean found = row.find();
                Check.isTrue("README.md has a row with " + method.getName(), found);
                int arguments = found && !row.group(1).isEmpty() ? row.group(1).split(", ").length : 0;
                Check.equal("arguments of " + method.getName() + " in README.md", arguments,
                        method.getParameterCount());
            }
        }
    }

    private static void starsMarkChanges(List<String> page) {
        List<String> starred = new ArrayList<>();
        for (String line : page) {
            Matcher mark = STARRED.matcher(line);
            while (mark.find()) {
                starred.add(mark.group(1));
            }
        }
        Check.equal("changes with a star in README.md", String.join(" ", starred.stream().sorted().toList()),
                "addPart addStock build copyTrain crank improve removePart removeStock setSlack swapTrains");
    }

    private static void listHasAllTests(List<String> page) throws IOException {
        try (Stream<Path> files = Files.list(TESTS)) {
            for (Path file : files.toList()) {
                String name = file.getFileName().toString().replace(".java", "");
                if (name.endsWith("Test")) {
                    Check.isTrue("README.md lists " + name,
                            page.stream().anyMatch(line -> line.startsWith("| `" + name + "` |")));
                }
            }
        }
    }
}
