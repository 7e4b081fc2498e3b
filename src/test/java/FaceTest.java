import java.io.IOException;
import java.lang.reflect.Constructor;
import java.lang.reflect.Field;
import java.lang.reflect.Method;
import java.lang.reflect.Modifier;
import java.nio.file.Files;
import java.nio.file.Path;
import java.util.ArrayList;
import java.util.Arrays;
import java.util.List;
import java.util.Set;
import java.util.TreeSet;
import java.util.regex.Matcher;
import java.util.regex.Pattern;

/** The face is the document's, member by member, and nothing else can be seen (rule 1, too). */
public final class FaceTest {
    private static final Checks C = new Checks("FaceTest");
    private static final Path ROOT = Path.of(System.getProperty("yard.root", "."));

    public static void main(String[] args) throws IOException, ReflectiveOperationException {
        String doc = Files.readString(ROOT.resolve("../shared/DOC.md"));
        String block = doc.substring(doc.indexOf("```java"), doc.indexOf("## Terms"));
        membersAreTheDocuments(block);
        constantsAreTheDocuments(block);
        partsAreTheDocuments(doc);
        C.end();
    }

    private static void membersAreTheDocuments(String doc) {
        Set<String> want = new TreeSet<>();
        Matcher m = Pattern.compile("public (int|long) (\\w+)\\(([^)]*)\\);").matcher(doc);
        while (m.find()) {
            String types = m.group(3).replaceAll("(\\w+) \\w+(, )?", "$1,").replaceAll(",$", "");
            want.add(m.group(1) + " " + m.group(2) + "(" + types + ")");
        }
        Set<String> got = new TreeSet<>();
        for (Method method : YardNames.class.getDeclaredMethods()) {
            if (!Modifier.isPrivate(method.getModifiers())) {
                got.add(signature(method));
            }
        }
        C.due("the document has 31 methods", want.size(), 31);
        C.due("face " + got + " as " + want, got.equals(want) ? 1 : 0, 1);
        Constructor<?>[] made = YardNames.class.getDeclaredConstructors();
        C.due("one constructor", made.length, 1);
        C.due("without parameters", made[0].getParameterCount(), 0);
        C.due("public", made[0].getModifiers(), Modifier.PUBLIC);
        C.due("a public final class", YardNames.class.getModifiers(),
            Modifier.PUBLIC | Modifier.FINAL);
    }

    private static String signature(Method m) {
        List<String> types = new ArrayList<>();
        for (Class<?> type : m.getParameterTypes()) {
            types.add(type.getName());
        }
        return m.getReturnType().getName() + " " + m.getName() + "(" + String.join(",", types) + ")";
    }

    /** As "int UNKNOWN = -1"; the document tells those of a type in one line. */
    private static void constantsAreTheDocuments(String doc) throws ReflectiveOperationException {
        Set<String> want = new TreeSet<>();
        Matcher line = Pattern.compile("public static final (\\w+) ([^;]+);").matcher(doc);
        while (line.find()) {
            for (String constant : line.group(2).split(", ")) {
                want.add(line.group(1) + " " + constant);
            }
        }
        Set<String> got = new TreeSet<>();
        for (Field f : YardNames.class.getDeclaredFields()) {
            if (!Modifier.isPrivate(f.getModifiers())) {
                C.due(f.getName() + " is a public constant", f.getModifiers(),
                    Modifier.PUBLIC | Modifier.STATIC | Modifier.FINAL);
                got.add(f.getType() + " " + f.getName() + " = " + f.get(null));
            }
        }
        want.remove("long LOST = Long.MIN_VALUE");
        want.add("long LOST = " + Long.MIN_VALUE);
        C.due("the document has 6 constants", want.size(), 6);
        C.due("constants " + got + " as " + want, got.equals(want) ? 1 : 0, 1);
    }

    /** 'Ahead of the calls .. the interface says: ---- 1 the sea.' */
    private static void partsAreTheDocuments(String doc) throws IOException {
        List<String> want = new ArrayList<>();
        Matcher part = Pattern.compile("Ahead of the calls (.*) the interface says: (----.*)\\.")
            .matcher(doc);
        while (part.find()) {
            want.add(part.group(2));
            want.addAll(Arrays.asList(part.group(1).replace("`", "").split(", ")));
        }
        List<String> got = new ArrayList<>();
        String source = Files.readString(ROOT.resolve("src/main/java/YardNames.java"));
        Matcher m = Pattern.compile("(?m)^    // (---- \\d.*)$|^    public \\w+ (\\w+)\\(")
            .matcher(source);
        while (m.find()) {
            got.add(m.group(1) != null ? m.group(1) : m.group(2));
        }
        C.due("31 calls in 5 parts", want.size(), 36);
        C.due("parts " + got + " as " + want, got.equals(want) ? 1 : 0, 1);
    }
}
