import java.lang.reflect.Method;
import java.lang.reflect.Modifier;
import java.util.ArrayList;
import java.util.Arrays;
import java.util.HashMap;
import java.util.List;
import java.util.Map;
import java.util.Set;
import java.util.TreeSet;

/**
 * An object under test whose calls are told as texts, such as "load(0, 3, 9)". As it keeps what was
 * called, it can make twins of the object: one gets the call that is looked at, the other does not,
 * and then all that can be seen of the two is compared.
 */
final class Yard {
    private static final int MOST_CALLS = 512;
    private static final int[] OF_SHIPS = {0, 1, 2, 4, 10, 11, 12, 13};
    private static final List<String> NAMING_FAULTS =
        Arrays.asList("sea", "voyage", "names", "sheet", "put", "cell", "copy", "as");
    private static final Map<String, Method> FACE = face();
    private static final List<String> PEEKS = peeks();

    private final Checks checks;
    private final YardNames object = new YardNames();
    private final List<String> said = new ArrayList<>();

    Yard(Checks checks) {
        this.checks = checks;
    }

    private static Map<String, Method> face() {
        Map<String, Method> face = new HashMap<>();
        for (Method m : YardNames.class.getDeclaredMethods()) {
            if (Modifier.isPublic(m.getModifiers())) {
                face.put(m.getName(), m);
            }
        }
        return face;
    }

    /** Calls that look at all parts of an object: of three ships, four ports, six cells a sheet. */
    private static List<String> peeks() {
        List<String> peeks = new ArrayList<>(Arrays.asList("trace()", "fault()"));
        for (int what = 0; what <= 4; what++) {
            peeks.add("many(" + what + ")");
        }
        for (int port = 0; port < 4; port++) {
            peeks.add("rough(" + port + ")");
        }
        for (int k = 0; k < 3; k++) {
            for (int what : OF_SHIPS) {
                peeks.add("ofShip(" + k + ", " + what + ")");
            }
            peeks.add("strengths(" + k + ")");
            peeks.add("kinds(" + k + ")");
        }
        for (int k = 0; k < 4; k++) {
            for (int lane = 0; lane < 3; lane++) {
                for (int i = 0; i < 6; i++) {
                    peeks.add("cell(" + k + ", " + i + ", " + lane + ")");
                }
            }
        }
        return peeks;
    }

    // ---- making one ready

    /** A text on sheet 0, as bytes, that is taken. */
    Yard sea(String text) {
        return text(0, text).due("sea(0, 0, 0, " + text.length() + ")", (text.length() - 1) / 9);
    }

    Yard text(int sheet, String text) {
        int[] codes = new int[text.length()];
        for (int i = 0; i < codes.length; i++) {
            codes[i] = text.charAt(i);
        }
        return row(sheet, 0, codes);
    }

    Yard row(int sheet, int lane, int... cells) {
        does("sheet(" + sheet + ", " + lane + ", " + cells.length + ")");
        for (int i = 0; i < cells.length; i++) {
            does("put(" + sheet + ", " + i + ", " + cells[i] + ")");
        }
        return this;
    }

    // ---- looking at calls

    /** A call of which only the answer is looked at. */
    Yard due(String call, long answer) {
        checks.due(call, does(call), answer);
        return this;
    }

    /** A call that answers and changes nothing (but fault(), if it names FAULTS). */
    Yard same(String call, long answer) {
        changesNothing(call, 0);
        return due(call, answer);
    }

    /** A REFUSAL: it changes nothing (but fault(), if the call names FAULTS). */
    Yard refused(String call, int refusal) {
        return same(call, answersLong(call) ? YardNames.LOST : refusal);
    }

    /** A FAULT: fault() tells it, and nothing else changes. */
    Yard faulted(String call, int fault) {
        changesNothing(call, fault);
        return due(call, answersLong(call) ? YardNames.LOST : -10 - fault);
    }

    /** A call behind which all that can be asked answers as before, but for what is told here. */
    Yard changes(String call, long answer, String... asked) {
        Set<String> changed = new TreeSet<>();
        for (String peek : PEEKS) {
            YardNames one = twin();
            invoke(one, call);
            if (invoke(one, peek) != invoke(twin(), peek)) {
                changed.add(peek);
            }
        }
        Set<String> told = new TreeSet<>(Arrays.asList(asked));
        checks.due(call + " changed " + changed + ", due are " + told + ", so that it",
            changed.equals(told) ? 1 : 0, 1);
        return due(call, answer);
    }

    private void changesNothing(String call, int fault) {
        YardNames one = twin();
        YardNames other = twin();
        // A fault of its own shows whether the call sets fault() or leaves it.
        one.sheet(0, 0, -1);
        other.sheet(0, 0, -1);
        invoke(one, call);
        boolean names = NAMING_FAULTS.contains(nameOf(call));
        checks.due("fault() behind " + call, one.fault(), names ? fault : 4);
        String seen = seen(one);
        String before = seen(other);
        if (!seen.equals(before)) {
            checks.due(call + " changed\n    " + before + " to\n    " + seen + ", so that it", 1, 0);
        }
    }

    private long does(String call) {
        said.add(call);
        if (said.size() > MOST_CALLS) {
            throw new IllegalStateException("more than 512 calls");
        }
        return invoke(object, call);
    }

    private YardNames twin() {
        YardNames twin = new YardNames();
        for (String call : said) {
            invoke(twin, call);
        }
        return twin;
    }

    // ---- calls told as texts

    private static String nameOf(String call) {
        return call.substring(0, call.indexOf('('));
    }

    private static boolean answersLong(String call) {
        return FACE.get(nameOf(call)).getReturnType() == long.class;
    }

    private static long invoke(YardNames x, String call) {
        String inside = call.substring(call.indexOf('(') + 1, call.length() - 1);
        String[] told = inside.isEmpty() ? new String[0] : inside.split(", ");
        Object[] arguments = new Object[told.length];
        for (int i = 0; i < told.length; i++) {
            arguments[i] = numberOf(told[i]);
        }
        try {
            return ((Number) FACE.get(nameOf(call)).invoke(x, arguments)).longValue();
        } catch (ReflectiveOperationException e) {
            throw new IllegalStateException(call, e);
        }
    }

    /** MIN and MAX are the edges of int. */
    private static int numberOf(String told) {
        switch (told) {
            case "MIN": return Integer.MIN_VALUE;
            case "MAX": return Integer.MAX_VALUE;
            default: return Integer.parseInt(told);
        }
    }

    // ---- all that can be seen of an object (it is used up by it)

    private static String seen(YardNames x) {
        StringBuilder b = new StringBuilder();
        for (int what = 0; what <= 4; what++) {
            b.append(x.many(what)).append(' ');
        }
        b.append("trace ").append(x.trace()).append(" rough ");
        for (int port = 0; port < x.many(1); port++) {
            b.append(x.rough(port)).append(' ');
        }
        int ships = x.many(0);
        for (int k = 0; k < ships; k++) {
            seenOfShip(x, k, b);
        }
        seenOfReadings(x, ships, b);
        for (int k = 0; k < 4; k++) {
            seenOfSheet(x, k, b);
        }
        return b.toString();
    }

    private static void seenOfShip(YardNames x, int k, StringBuilder b) {
        b.append("| ship ");
        for (int what : OF_SHIPS) {
            b.append(x.ofShip(k, what)).append(' ');
        }
    }

    private static void seenOfReadings(YardNames x, int ships, StringBuilder b) {
        for (int left = x.many(4); left > 0; left--) {
            b.append("| readings ");
            for (int k = 0; k < ships; k++) {
                b.append(x.strengths(k)).append(' ').append(x.kinds(k)).append(' ');
            }
            x.back(1);
        }
    }

    private static void seenOfSheet(YardNames x, int k, StringBuilder b) {
        b.append("| sheet ");
        for (int lane = 0; lane < 3; lane++) {
            long v = x.cell(k, 0, lane);
            b.append('f').append(x.fault()).append(' ');
            for (int i = 1; v != YardNames.LOST; i++) {
                b.append(v).append(' ');
                v = x.cell(k, i, lane);
            }
        }
    }
}
