import java.lang.reflect.InvocationTargetException;
import java.lang.reflect.Method;
import java.util.Arrays;
import java.util.Comparator;

/** What the tests share: counting wrong answers, and putting texts and numbers on sheets. */
final class Checks {
    /** Numbers that no call knows anything of, and the edges of int, at which sums wrap. */
    static final int[] WILD = {Integer.MIN_VALUE, Integer.MIN_VALUE + 1, -1000, -11, -2, -1,
        61, 100, 1000, Integer.MAX_VALUE - 60, Integer.MAX_VALUE - 1, Integer.MAX_VALUE};

    /** The sea of most tests: a BARGE, a CUTTER, a SLOOP and a BARGE in four ports. */
    static final String SEA = "y3725;b2311230;c0400312;s1132040;b2025000";

    private String test;
    private int wrong;

    Checks(String test) {
        this.test = test;
    }

    void due(String what, long got, long want) {
        if (got != want) {
            wrong++;
            System.out.println(test + ": " + what + " answered " + got + ", due is " + want);
        }
    }

    /** A call that answers a fault, which fault() tells, too. */
    void faulted(YardNames x, String what, long got, int fault) {
        due(what, got, -10 - fault);
        due("fault() of " + what, x.fault(), fault);
    }

    /** Runs all tests of a class that are named after a promise, such as promise07_nDays. */
    void runPromises(Class<?> tests) {
        String all = test;
        Method[] methods = tests.getDeclaredMethods();
        Arrays.sort(methods, Comparator.comparing(Method::getName));
        int count = 0;
        for (Method m : methods) {
            if (m.getName().startsWith("promise")) {
                test = all + "." + m.getName();
                run(m);
                count++;
            }
        }
        test = all;
        System.out.println(test + ": " + count + " tests");
        end();
    }

    private void run(Method m) {
        try {
            m.setAccessible(true);
            m.invoke(null);
        } catch (InvocationTargetException e) {
            e.getCause().printStackTrace(System.out);
            due("the test itself", 1, 0);
        } catch (IllegalAccessException e) {
            throw new IllegalStateException(e);
        }
    }

    void end() {
        if (wrong != 0) {
            System.out.println(test + ": " + wrong + " answers are not as due");
            System.exit(1);
        }
    }

    /** A fresh object with a text on sheet 0 (bytes) that is not yet taken. */
    static YardNames withText(String text) {
        YardNames x = new YardNames();
        putText(x, 0, text);
        return x;
    }

    static YardNames withSea(String text) {
        YardNames x = withText(text);
        int ships = x.sea(0, 0, 0, text.length());
        if (ships < 1) {
            throw new IllegalStateException("no sea by " + text + ": " + ships);
        }
        return x;
    }

    static void putText(YardNames x, int sheet, String text) {
        x.sheet(sheet, 0, text.length());
        for (int i = 0; i < text.length(); i++) {
            x.put(sheet, i, text.charAt(i));
        }
    }

    /** A row of ints on a sheet. */
    static void putRow(YardNames x, int sheet, int... row) {
        x.sheet(sheet, 2, row.length);
        for (int i = 0; i < row.length; i++) {
            x.put(sheet, i, row[i]);
        }
    }

    /** All that can be seen of an object without asking for days to come (and but for fault()). */
    static String seen(YardNames x) {
        int fault = x.fault();
        StringBuilder b = new StringBuilder();
        for (int what = 0; what <= 4; what++) {
            b.append(x.many(what)).append(' ');
        }
        for (int port = 0; port < 7; port++) {
            b.append(x.rough(port)).append(' ');
        }
        for (int k = 0; k < 6; k++) {
            b.append("| ");
            for (int what = 0; what < 15; what++) {
                b.append(x.ofShip(k, what)).append(' ');
            }
            b.append(x.strengths(k)).append(' ').append(x.kinds(k)).append(' ');
        }
        if (x.fault() != fault) {
            throw new IllegalStateException("looking has changed fault()");
        }
        for (int k = 0; k < 4; k++) {
            b.append("| ");
            for (int lane = 0; lane < 3; lane++) {
                long v = 0;
                for (int i = 0; i <= 60 && v != YardNames.LOST; i++) {
                    v = x.cell(k, i, lane);
                    b.append(v).append(' ');
                }
                b.append('x').append(x.fault()).append(' ');
            }
        }
        return b.append("| ").append(x.trace()).toString();
    }
}
