import java.lang.reflect.Method;
import java.lang.reflect.Modifier;
import java.util.ArrayList;
import java.util.Arrays;
import java.util.Comparator;
import java.util.List;
import java.util.Random;

/** Long runs of calls, drawn from fixed seeds, on the class and on Model: all answers are alike. */
public final class ModelTest {
    private static final int RUNS = 3000, CALLS = 480, TOLD = 12;

    private final Random draw;
    private final YardNames x = new YardNames();
    private final Model model = new Model();
    private final List<String> said = new ArrayList<>();
    private final Method[] face;

    private ModelTest(long seed, Method[] face) {
        draw = new Random(seed);
        this.face = face;
    }

    public static void main(String[] args) throws ReflectiveOperationException {
        List<Method> face = new ArrayList<>();
        for (Method m : YardNames.class.getDeclaredMethods()) {
            if (Modifier.isPublic(m.getModifiers())) {
                face.add(m);
            }
        }
        face.sort(Comparator.comparing(Method::getName));
        int wrong = 0;
        for (int run = 0; run < RUNS && wrong < TOLD; run++) {
            wrong += new ModelTest(run, face.toArray(new Method[0])).runs(run) ? 0 : 1;
        }
        if (wrong > 0) {
            System.exit(1);
        }
    }

    private boolean runs(int run) throws ReflectiveOperationException {
        while (said.size() < CALLS) {
            boolean alike = draw.nextInt(40) == 0 ? textAndSea()
                : draw.nextInt(25) == 0 ? rowOfPairs()
                : draw.nextInt(25) == 0 ? rowOfLosses()
                : anyCall();
            if (!alike) {
                System.out.println("ModelTest, run " + run + ": " + said);
                return false;
            }
        }
        return true;
    }

    private boolean call(String name, int... a) throws ReflectiveOperationException {
        for (Method m : face) {
            if (m.getName().equals(name)) {
                return call(m, a);
            }
        }
        throw new IllegalStateException(name);
    }

    private boolean call(Method m, int[] a) throws ReflectiveOperationException {
        Object[] boxed = new Object[a.length];
        for (int i = 0; i < a.length; i++) {
            boxed[i] = a[i];
        }
        long got = ((Number) m.invoke(x, boxed)).longValue();
        long want = model.call(m.getName(), a);
        said.add(m.getName() + Arrays.toString(a) + " = " + got);
        if (got != want) {
            said.add("due is " + want);
            return false;
        }
        return true;
    }

    private boolean anyCall() throws ReflectiveOperationException {
        Method m = face[draw.nextInt(face.length)];
        if (m.getName().equals("stow") && draw.nextInt(3) > 0) {
            return true;
        }
        int[] a = new int[m.getParameterCount()];
        for (int i = 0; i < a.length; i++) {
            a[i] = number();
        }
        return call(m, a);
    }

    /** Mostly small, for calls that are not refused; now and then from the edges of int. */
    private int number() {
        switch (draw.nextInt(24)) {
            case 0: return Checks.WILD[draw.nextInt(Checks.WILD.length)];
            case 1: return draw.nextInt();
            case 2: return draw.nextInt(70) - 5;
            case 3: case 4: case 5: return draw.nextInt(32);
            case 6: case 7: case 8: case 9: return draw.nextInt(15);
            case 10: case 11: case 12: return draw.nextInt(3);
            default: return draw.nextInt(5);
        }
    }

    private String text() {
        StringBuilder b = new StringBuilder("y");
        int ports = 2 + draw.nextInt(5);
        for (int p = 0; p < ports; p++) {
            b.append(draw.nextInt(10));
        }
        int ships = 1 + draw.nextInt(5);
        for (int k = 0; k < ships; k++) {
            b.append(';').append("bcs".charAt(draw.nextInt(3))).append(draw.nextInt(4));
            b.append(draw.nextInt(10)).append(draw.nextInt(ports));
            for (int g = 0; g < 4; g++) {
                b.append(draw.nextBoolean() ? 0 : draw.nextInt(10));
            }
        }
        return draw.nextInt(3) > 0 ? b.toString() : spoilt(b);
    }

    private String spoilt(StringBuilder b) {
        int at = draw.nextInt(b.length());
        char code = "ybcs;0123456789:/ax".charAt(draw.nextInt(19));
        switch (draw.nextInt(4)) {
            case 0: b.setCharAt(at, code); break;
            case 1: b.insert(at, code); break;
            case 2: b.deleteCharAt(at); break;
            default: b.append(code); break;
        }
        return b.toString();
    }

    private boolean textAndSea() throws ReflectiveOperationException {
        String text = text();
        int sheet = draw.nextInt(4), lane = draw.nextInt(3);
        int from = draw.nextInt(61 - text.length());
        boolean alike = call("sheet", sheet, lane, from + text.length());
        for (int i = 0; i < text.length() && alike; i++) {
            alike = call("put", sheet, from + i, text.charAt(i));
        }
        return alike && call("sea", sheet, lane, from, text.length());
    }

    private boolean rowOfPairs() throws ReflectiveOperationException {
        int sheet = draw.nextInt(4), lane = draw.nextInt(3), n = draw.nextInt(9);
        int ships = Math.max(1, x.many(0));
        boolean alike = call("sheet", sheet, lane, 2 * n);
        for (int p = 0; p < n && alike; p++) {
            int act = draw.nextInt(3) == 0 ? 8 : draw.nextInt(8);
            int first = draw.nextInt(40) == 0 ? number()
                : act == 8 ? draw.nextInt(5) : draw.nextInt(ships);
            alike = call("put", sheet, 2 * p, first)
                && call("put", sheet, 2 * p + 1, draw.nextInt(60) == 0 ? number() : act);
        }
        for (int what = 0; what < 15 && alike; what++) {
            alike = call("voyage", sheet, lane, 0, n, what);
        }
        return alike;
    }

    /** What some name would have lost, so that names finds one. */
    private boolean rowOfLosses() throws ReflectiveOperationException {
        if (x.many(0) == 0) {
            return true;
        }
        int sheet = draw.nextInt(4), lane = draw.nextInt(3);
        int k = draw.nextInt(x.many(0)), n = draw.nextInt(8);
        boolean alike = call("sheet", sheet, lane, 5);
        for (int g = 0; g < 4 && alike; g++) {
            alike = call("put", sheet, 1 + g, Math.min(x.ofShip(k, 10 + g), draw.nextInt(3)));
        }
        for (int d = 0; d < n && alike; d++) {
            alike = call("names", sheet, lane, 1, k, d);
        }
        return alike;
    }
}
