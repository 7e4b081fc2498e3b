import java.io.IOException;
import java.lang.reflect.Method;
import java.lang.reflect.Modifier;
import java.net.URI;
import java.net.URL;
import java.net.URLClassLoader;
import java.nio.file.DirectoryStream;
import java.nio.file.Files;
import java.nio.file.Path;
import java.util.List;
import java.util.Set;
import java.util.TreeSet;
import java.util.regex.Matcher;
import java.util.regex.Pattern;
import javax.tools.JavaCompiler;
import javax.tools.JavaFileObject;
import javax.tools.SimpleJavaFileObject;
import javax.tools.ToolProvider;

/** The calls that README.md shows answer what it says of them; its tables are as things are. */
public final class ReadmeTest {
    private static final Checks C = new Checks("ReadmeTest");
    private static final Path ROOT = Path.of(System.getProperty("yard.root", "."));
    private static final Pattern BLOCK = Pattern.compile("(?ms)^```java\n(.*?)^```$");
    /** A call with its answer, a Java expression, and perhaps words behind it. */
    private static final Pattern SHOWN =
        Pattern.compile("(yard\\.(\\w+)\\([^;]*\\)); +// ([\\w.-]+)(:.*)?");

    public static void main(String[] args) throws IOException, ReflectiveOperationException {
        String readme = Files.readString(ROOT.resolve("README.md"));
        callsAnswerAsSaid(readme);
        constantsAreAsSaid(readme);
        testsAreAsSaid(readme);
        C.end();
    }

    /** Called by what README.md shows. */
    public static void due(String call, long got, long want) {
        C.due(call, got, want);
    }

    private static void callsAnswerAsSaid(String readme)
            throws IOException, ReflectiveOperationException {
        Set<String> shown = new TreeSet<>();
        StringBuilder run = new StringBuilder();
        Matcher block = BLOCK.matcher(readme);
        while (block.find()) {
            for (String line : block.group(1).split("\n")) {
                run.append(checkedLine(line, shown)).append('\n');
            }
        }
        C.due("calls shown " + shown + " are all of the face", shown.equals(face()) ? 1 : 0, 1);
        runSource("Shown", "public final class Shown { public static void run() {\n" + run + "} }");
    }

    private static String checkedLine(String line, Set<String> shown) {
        Matcher m = SHOWN.matcher(line);
        if (m.matches()) {
            shown.add(m.group(2));
            return "ReadmeTest.due(\"" + m.group(1) + "\", " + m.group(1) + ", " + m.group(3) + ");";
        }
        C.due(line + " says what it answers", line.startsWith("yard.") ? 0 : 1, 1);
        return line;
    }

    private static Set<String> face() {
        Set<String> face = new TreeSet<>();
        for (Method m : YardNames.class.getDeclaredMethods()) {
            if (Modifier.isPublic(m.getModifiers())) {
                face.add(m.getName());
            }
        }
        return face;
    }

    private static void runSource(String name, String source)
            throws IOException, ReflectiveOperationException {
        Path built = Files.createTempDirectory("readme");
        Path compiled = built.resolve(name + ".class");
        try {
            JavaCompiler javac = ToolProvider.getSystemJavaCompiler();
            List<String> options =
                List.of("-cp", System.getProperty("java.class.path"), "-d", built.toString());
            if (!javac.getTask(null, null, null, options, null, List.of(file(name, source))).call()) {
                C.due("what README.md shows can be compiled", 0, 1);
                return;
            }
            try (URLClassLoader loader = new URLClassLoader(new URL[] {built.toUri().toURL()})) {
                loader.loadClass(name).getMethod("run").invoke(null);
            }
        } finally {
            Files.deleteIfExists(compiled);
            Files.delete(built);
        }
    }

    private static JavaFileObject file(String name, String source) {
        return new SimpleJavaFileObject(URI.create("string:///" + name + ".java"),
                JavaFileObject.Kind.SOURCE) {
            @Override
            public CharSequence getCharContent(boolean ignoreErrors) {
                return source;
            }
        };
    }

    /** Rows such as | `UNKNOWN` | -1 | .. |. */
    private static void constantsAreAsSaid(String readme) throws ReflectiveOperationException {
        Matcher m = Pattern.compile("(?m)^\\| `([A-Z]+)` \\| `?([^|`]+?)`? \\|").matcher(readme);
        int told = 0;
        while (m.find()) {
            told++;
            long want = m.group(2).equals("Long.MIN_VALUE")
                ? Long.MIN_VALUE : Long.parseLong(m.group(2));
            long got = ((Number) YardNames.class.getField(m.group(1)).get(null)).longValue();
            C.due(m.group(1), got, want);
        }
        C.due("constants in README.md", told, YardNames.class.getFields().length);
    }

    private static void testsAreAsSaid(String readme) throws IOException {
        Set<String> told = new TreeSet<>();
        Matcher m = Pattern.compile("`(\\w+Test)`[,` ]").matcher(readme);
        while (m.find()) {
            told.add(m.group(1));
        }
        Set<String> there = new TreeSet<>();
        Path tests = ROOT.resolve("src/test/java");
        try (DirectoryStream<Path> files = Files.newDirectoryStream(tests, "*Test.java")) {
            for (Path file : files) {
                there.add(file.getFileName().toString().replace(".java", ""));
            }
        }
        told.remove("EdgesTest");
        C.due("tests in README.md " + told + " as " + there, told.equals(there) ? 1 : 0, 1);
        C.due("README.md says how to run them", readme.contains("\n    .ci/run\n") ? 1 : 0, 1);
        C.due(".ci/run can be run", Files.isExecutable(ROOT.resolve(".ci/run")) ? 1 : 0, 1);
    }
}
