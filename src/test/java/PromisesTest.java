import java.io.IOException;
import java.lang.reflect.Method;
import java.nio.file.DirectoryStream;
import java.nio.file.Files;
import java.nio.file.Path;
import java.util.Map;
import java.util.TreeMap;
import java.util.regex.Matcher;
import java.util.regex.Pattern;

/** Each promise of the document has tests of its boundary cases that are named after its number. */
public final class PromisesTest {
    private static final Checks C = new Checks("PromisesTest");
    private static final Path ROOT = Path.of(System.getProperty("yard.root", "."));
    private static final Pattern NAME = Pattern.compile("promise(\\d\\d)_[a-z0-9]\\w*");

    public static void main(String[] args) throws IOException, ReflectiveOperationException {
        Map<Integer, Integer> counts = counts();
        String doc = Files.readString(ROOT.resolve("../shared/DOC.md"));
        Matcher m = Pattern.compile("(?m)^## Promise (\\d+):").matcher(doc);
        int promises = 0;
        while (m.find()) {
            int number = Integer.parseInt(m.group(1));
            promises++;
            C.due("tests of promise " + number, counts.getOrDefault(number, 0) > 0 ? 1 : 0, 1);
        }
        C.due("promises", promises, 32);
        C.due("tests of other numbers", counts.size(), promises);
        System.out.println("PromisesTest: tests of boundary cases by promise " + counts);
        C.end();
    }

    private static Map<Integer, Integer> counts() throws IOException, ReflectiveOperationException {
        Map<Integer, Integer> counts = new TreeMap<>();
        Path tests = ROOT.resolve("src/test/java");
        try (DirectoryStream<Path> files = Files.newDirectoryStream(tests, "*EdgesTest.java")) {
            for (Path file : files) {
                String name = file.getFileName().toString().replace(".java", "");
                for (Method method : Class.forName(name).getDeclaredMethods()) {
                    Matcher m = NAME.matcher(method.getName());
                    if (m.matches()) {
                        counts.merge(Integer.parseInt(m.group(1)), 1, Integer::sum);
                    }
                }
            }
        }
        return counts;
    }
}
