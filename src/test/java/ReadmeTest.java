import java.io.IOException;
import java.io.StringWriter;
import java.lang.reflect.Method;
import java.net.URL;
import java.net.URLClassLoader;
import java.nio.file.Files;
import java.nio.file.Path;
import java.util.ArrayList;
import java.util.Comparator;
import java.util.List;
import java.util.Set;
import java.util.TreeSet;
import java.util.regex.Matcher;
import java.util.regex.Pattern;
import java.util.stream.Stream;
import javax.tools.JavaCompiler;
import javax.tools.StandardJavaFileManager;
import javax.tools.ToolProvider;

/** README.md: its Java is compiled and run as it stands there, and each call must answer what the page says behind it. */
public final class ReadmeTest {
    private static final Path README = Path.of("README.md");
    private static final Pattern BLOCK = Pattern.compile("^```java\\n(.*?)^```$", Pattern.MULTILINE | Pattern.DOTALL);
    private static final Pattern CALL = Pattern.compile("x\\.(\\w+)\\(.*?\\);(?:\\s*// (.*))?");
    private static final Pattern ANSWER = Pattern.compile("(-?\\d+|true|false|throws \\w+)(?:: .+)?");
    private static final Due due = new Due();
    private static final Set<String> shown = new TreeSet<>();
    private static int made;

    public static void main(String[] args) throws Exception {
        due.is("README.md is there", Files.isRegularFile(README), true);
        if (Files.isRegularFile(README)) {
            String page = Files.readString(README);
            due.is("README.md says how to run the tests", page.contains(".ci/run"), true);
            calls(page);
            everyTestIsListed(page);
        }
        due.end();
    }

    private static void calls(String page) throws Exception {
        List<String> lines = new ArrayList<>();
        lines.add("import java.util.NoSuchElementException;");
        lines.add("public final class ReadmeCalls {");
        int blocks = 0;
        int answers = 0;
        Matcher block = BLOCK.matcher(page);
        while (block.find()) {
            String text = block.group(1);
            if (text.startsWith("static ")) {
                lines.add(text);
                continue;
            }
            lines.add("public static void block" + blocks + "() {");
            for (String line : text.split("\n")) {
                lines.add(checked(line.strip()));
                answers += lines.get(lines.size() - 1).startsWith("ReadmeTest.") ? 1 : 0;
            }
            lines.add("}");
            blocks++;
        }
        lines.add("}");
        run(String.join("\n", lines), blocks);
        due.is("all answers were looked at", made, answers);
        due.is("there are answers", answers > 0, true);
        Set<String> face = new TreeSet<>();
        for (Method m : SeaLand.class.getDeclaredMethods()) {
            if (java.lang.reflect.Modifier.isPublic(m.getModifiers())) {
                face.add(m.getName());
            }
        }
        face.removeAll(shown);
        due.is("calls that README.md does not show: " + face, face.size(), 0);
    }

    /** The line as it stands, or, if an answer is told behind a call, with a look at that answer. */
    private static String checked(String line) {
        Matcher call = CALL.matcher(line);
        if (!call.matches()) {
            due.is("a line that is no call: " + line, line.matches("SeaLand x = new SeaLand\\(\\);|tape\\(x, \".*\"\\);"), true);
            return line;
        }
        shown.add(call.group(1));
        String text = line.substring(0, line.indexOf(");") + 1);
        if (call.group(1).equals("tide")) {
            due.is(line + " answers nothing", call.group(2) == null, true);
            return text + ";";
        }
        Matcher answer = ANSWER.matcher(call.group(2) == null ? "" : call.group(2));
        if (!answer.matches()) {
            due.is(line + " says what is answered", false, true);
            return text + ";";
        }
        String told = answer.group(1);
        String quoted = "\"" + text + "\"";
        if (told.startsWith("throws ")) {
            return "ReadmeTest.fails(" + quoted + ", " + told.substring(7) + ".class, () -> " + text + ");";
        }
        return "ReadmeTest.is(" + quoted + ", " + text + ", " + told + ");";
    }

    private static void run(String source, int blocks) throws Exception {
        Path home = Files.createTempDirectory("readme");
        try {
            Path file = Files.writeString(home.resolve("ReadmeCalls.java"), source);
            if (compiles(file, home)) {
                try (URLClassLoader loader = new URLClassLoader(new URL[] {home.toUri().toURL()})) {
                    for (int i = 0; i < blocks; i++) {
                        loader.loadClass("ReadmeCalls").getMethod("block" + i).invoke(null);
                    }
                }
            }
        } finally {
            try (Stream<Path> files = Files.walk(home)) {
                files.sorted(Comparator.reverseOrder()).forEach(path -> path.toFile().delete());
            }
        }
    }

    private static boolean compiles(Path file, Path into) throws IOException {
        JavaCompiler compiler = ToolProvider.getSystemJavaCompiler();
        StringWriter said = new StringWriter();
        try (StandardJavaFileManager files = compiler.getStandardFileManager(null, null, null)) {
            List<String> options = List.of("-d", into.toString(), "-cp", System.getProperty("java.class.path"));
            boolean right = compiler.getTask(said, files, null, options, null, files.getJavaFileObjects(file)).call();
            due.is("the Java of README.md compiles: " + said, right, true);
            return right;
        }
    }

    private static void everyTestIsListed(String page) throws IOException {
        try (Stream<Path> files = Files.list(Path.of("src/test/java"))) {
            files.map(f -> f.getFileName().toString().replace(".java", "")).filter(f -> f.endsWith("Test"))
                    .forEach(f -> due.is("README.md lists " + f, page.contains(f), true));
        }
    }

    // ---- what the page's own lines call ----------------------------------------------------------

    public static void is(String call, long got, long want) {
        made++;
        due.is("README.md: " + call, got, want);
    }

    public static void is(String call, boolean got, boolean want) {
        made++;
        due.is("README.md: " + call, got, want);
    }

    public static void fails(String call, Class<?> want, Runnable run) {
        made++;
        due.fails("README.md: " + call, want, run::run);
    }
}
