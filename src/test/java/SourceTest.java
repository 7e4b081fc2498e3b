import java.io.IOException;
import java.lang.reflect.Constructor;
import java.lang.reflect.Field;
import java.lang.reflect.Method;
import java.lang.reflect.Modifier;
import java.nio.file.Files;
import java.nio.file.Path;
import java.util.ArrayList;
import java.util.Arrays;
import java.util.List;
import java.util.Set;
import java.util.TreeSet;
import java.util.regex.Matcher;
import java.util.regex.Pattern;

/** The document's face, and what of LANGUAGE.md can be seen in the source and in the classes. */
public final class SourceTest {
    private static final Checks C = new Checks("SourceTest");
    private static final Path ROOT = Path.of(System.getProperty("yard.root", "."));

    public static void main(String[] args) throws IOException, ReflectiveOperationException {
        String source = Files.readString(ROOT.resolve("src/main/java/YardNames.java"));
        String bare = withoutComments(source);
        faceIsTheDocuments();
        constants();
        membersOfTheClasses();
        noForeignWords(bare);
        libraryIsListed(bare);
        methodsStayShort(source);
        C.due("codes are 1 to 127", source.chars().allMatch(c -> c > 0 && c < 128) ? 1 : 0, 1);
        C.end();
    }

    private static String withoutComments(String source) {
        return source.replaceAll("(?s)/\\*.*?\\*/", " ").replaceAll("//[^\n]*", " ");
    }

    /** The block behind 'The public face', member by member. */
    private static void faceIsTheDocuments() throws IOException {
        String doc = Files.readString(ROOT.resolve("../shared/DOC.md"));
        String block = doc.substring(doc.indexOf("```java"), doc.indexOf("## Terms"));
        Set<String> want = new TreeSet<>();
        Matcher m = Pattern.compile("public (int|long) (\\w+)\\(([^)]*)\\);").matcher(block);
        while (m.find()) {
            String types = m.group(3).replaceAll("(\\w+) \\w+(, )?", "$1,").replaceAll(",$", "");
            want.add(m.group(1) + " " + m.group(2) + "(" + types + ")");
        }
        Set<String> got = new TreeSet<>();
        for (Method method : YardNames.class.getDeclaredMethods()) {
            if (!Modifier.isPrivate(method.getModifiers())) {
                got.add(signature(method));
            }
        }
        C.due("the document has 31 methods", want.size(), 31);
        C.due("face " + got + " as " + want, got.equals(want) ? 1 : 0, 1);
        Constructor<?>[] made = YardNames.class.getDeclaredConstructors();
        C.due("one constructor", made.length, 1);
        C.due("without parameters", made[0].getParameterCount(), 0);
        C.due("public", made[0].getModifiers(), Modifier.PUBLIC);
        C.due("a public final class", YardNames.class.getModifiers(),
            Modifier.PUBLIC | Modifier.FINAL);
    }

    private static String signature(Method m) {
        List<String> types = new ArrayList<>();
        for (Class<?> type : m.getParameterTypes()) {
            types.add(type.getName());
        }
        return m.getReturnType().getName() + " " + m.getName() + "(" + String.join(",", types) + ")";
    }

    private static void constants() throws ReflectiveOperationException {
        C.due("UNKNOWN", YardNames.UNKNOWN, -1);
        C.due("OUTSIDE", YardNames.OUTSIDE, -2);
        C.due("STATE", YardNames.STATE, -3);
        C.due("FULL", YardNames.FULL, -4);
        C.due("NONE", YardNames.NONE, -9);
        C.due("LOST", YardNames.LOST, Long.MIN_VALUE);
        Set<String> open = new TreeSet<>();
        for (Field f : YardNames.class.getDeclaredFields()) {
            if (!Modifier.isPrivate(f.getModifiers())) {
                open.add(f.getName());
            }
        }
        Set<String> want = new TreeSet<>(
            Arrays.asList("UNKNOWN", "OUTSIDE", "STATE", "FULL", "NONE", "LOST"));
        C.due("open fields " + open, open.equals(want) ? 1 : 0, 1);
    }

    private static void membersOfTheClasses() {
        Set<String> face = new TreeSet<>();
        for (Method m : YardNames.class.getMethods()) {
            face.add(m.getName());
        }
        List<Class<?>> all = new ArrayList<>(Arrays.asList(YardNames.class.getDeclaredClasses()));
        C.due("at most twelve classes", all.size() < 12 ? 1 : 0, 1);
        for (Class<?> c : all) {
            C.due(c + " is static", Modifier.isStatic(c.getModifiers()) ? 1 : 0, 1);
            C.due(c + " is not open", Modifier.isPublic(c.getModifiers()) ? 1 : 0, 0);
        }
        all.add(YardNames.class);
        for (Class<?> c : all) {
            int fields = 0;
            for (Field f : c.getDeclaredFields()) {
                boolean constant = Modifier.isStatic(f.getModifiers());
                fields += constant ? 0 : 1;
                C.due(f + " is final, if static",
                    constant && !Modifier.isFinal(f.getModifiers()) ? 1 : 0, 0);
            }
            C.due("fields of " + c, fields <= 20 ? 1 : 0, 1);
            for (Method m : c.getDeclaredMethods()) {
                C.due("parameters of " + m, m.getParameterCount() <= 7 ? 1 : 0, 1);
                boolean own = c != YardNames.class || Modifier.isPrivate(m.getModifiers());
                C.due("own name of " + m, own && face.contains(m.getName()) ? 1 : 0, 0);
            }
        }
    }

    private static void noForeignWords(String bare) {
        String[] words = {"throw", "throws", "try", "catch", "finally", "synchronized", "assert",
            "import", "package", "volatile", "native", "transient", "protected", "goto",
            "equals", "hashCode", "toString", "getClass", "Object", "new Thread", "Random",
            "currentTimeMillis", "nanoTime", "yield"};
        for (String word : words) {
            C.due("the word " + word, Pattern.compile("\\b" + word + "\\b").matcher(bare).find()
                ? 1 : 0, 0);
        }
        for (String sign : new String[] {"->", "::", "Exact(", "@", "static {", "var "}) {
            C.due("the sign " + sign, bare.contains(sign) ? 1 : 0, 0);
        }
    }

    /** Whatever is called on a name with a capital is a class of its own or is listed. */
    private static void libraryIsListed(String bare) {
        Set<String> listed = new TreeSet<>(Arrays.asList("Long.MIN_VALUE", "Integer.MAX_VALUE",
            "Math.min", "Math.max", "Integer.bitCount", "System.arraycopy"));
        Matcher m = Pattern.compile("\\b[A-Z][a-z]\\w*\\.\\w+").matcher(bare);
        while (m.find()) {
            C.due(m.group() + " is listed", listed.contains(m.group()) ? 1 : 0, 1);
        }
        m = Pattern.compile("\\bnew (\\w+)").matcher(bare);
        Set<String> own = new TreeSet<>(Arrays.asList("int"));
        for (Class<?> c : YardNames.class.getDeclaredClasses()) {
            own.add(c.getSimpleName());
        }
        while (m.find()) {
            C.due(m.group() + " is its own", own.contains(m.group(1)) ? 1 : 0, 1);
        }
    }

    /** By the way the file is set: a method begins with { and ends with } at the same margin. */
    private static void methodsStayShort(String source) {
        String[] lines = source.split("\n");
        Pattern begin = Pattern.compile("^( {4}| {8})[\\w\\[\\]]+[\\w\\[\\] ]*\\(.*\\) \\{$");
        int methods = 0;
        for (int i = 0; i < lines.length; i++) {
            Matcher m = begin.matcher(lines[i]);
            if (!m.matches() || lines[i].trim().matches("(if|for|while|switch|else).*")) {
                continue;
            }
            methods++;
            int end = i;
            while (end < lines.length && !lines[end].equals(m.group(1) + "}")) {
                end++;
            }
            C.due("lines of" + lines[i], end - i < 60 ? 1 : 0, 1);
        }
        C.due("methods were found", methods > 60 ? 1 : 0, 1);
    }
}
