import java.util.ArrayList;
import java.util.List;

/**
 * A second reading of the document, for ModelTest: as slow and plain as its words, day by day and
 * way by way, and written apart from the class, so that a slip in one shows against the other.
 */
final class Model {
    static final int UNKNOWN = -1, OUTSIDE = -2, STATE = -3, FULL = -4, NONE = -9;
    static final long LOST = Long.MIN_VALUE;

    /** A kind is a class here, so that casts and bodies are the machine's own. */
    static class Barge implements Cloneable {
        int name, strength, port;
        int[] goods = new int[4];

        int bears() { return strength; }
        int tell(Model m) { return bargeBody(m); }
        int bargeBody(Model m) { m.leave(1); return strength; }
        int hail(Model m) { m.leave(4); return name; }

        Barge twin() {
            try {
                Barge b = (Barge) clone();
                b.goods = goods.clone();
                return b;
            } catch (CloneNotSupportedException e) {
                throw new IllegalStateException(e);
            }
        }

        int worth() { return goods[0] + 2 * goods[1] + 3 * goods[2] + 4 * goods[3]; }

        /** The good that is lost on a way; NONE. */
        int day(List<Integer> ways) {
            int way = ways.get(port);
            port = (port + 1) % ways.size();
            if (way <= bears()) {
                return NONE;
            }
            int lost = goods[name] > 0 ? name : NONE;
            for (int g = 3; g >= 0 && goods[name] == 0; g--) {
                lost = goods[g] > 0 ? g : lost;
            }
            if (lost != NONE) {
                goods[lost]--;
            }
            return lost;
        }

        void days(List<Integer> ways, int n) {
            for (int d = 0; d < n; d++) {
                day(ways);
            }
        }
    }

    static class Cutter extends Barge {
        @Override int bears() { return super.bears() + 1; }
        @Override int tell(Model m) { m.leave(2); return super.tell(m) + 100; }
    }

    static class Sloop extends Cutter {
        @Override int bears() { return 2 * strength; }
        @Override int tell(Model m) { m.leave(3); return super.tell(m) + bargeBody(m); }
        @Override int hail(Model m) { m.leave(5); return 60; }
    }

    /** The machine's own faults are asked for here, by what it throws. */
    static final class Faulted extends RuntimeException {
        private static final long serialVersionUID = 1;
        final int fault;
        Faulted(int fault) { this.fault = fault; }
    }

    private List<Integer> ways = new ArrayList<>();
    private List<Barge> ships = new ArrayList<>();
    private List<int[]> readings = new ArrayList<>();
    private int day, trace, fault;
    private final Object[] sheets = new Object[4];

    void leave(int body) { trace = trace * 31 + body; }

    private boolean ship(int k) { return k >= 0 && k < ships.size(); }
    private boolean port(int p) { return p >= 0 && p < ways.size(); }
    private static boolean in(int v, int low, int high) { return low <= v && v <= high; }

    private static int kindOf(Barge b) {
        return b instanceof Sloop ? 2 : b instanceof Cutter ? 1 : 0;
    }

    private static Barge ofKind(int kind) {
        return kind == 2 ? new Sloop() : kind == 1 ? new Cutter() : new Barge();
    }

    /** What a row has from i on, n cells, taken as of a lane, with the faults of taking it. */
    private int[] taken(int sheet, int lane, int i, int n) {
        Object row = sheets[sheet];
        boolean cast = row != null && !(lane == 0 ? row instanceof byte[]
            : lane == 1 ? row instanceof short[] : row instanceof int[]);
        if (cast) { throw new Faulted(2); }
        if (row == null) { throw new Faulted(1); }
        if (n < 0) { throw new Faulted(4); }
        int length = java.lang.reflect.Array.getLength(row);
        if (i < 0 || (long) i + n > length) { throw new Faulted(3); }
        int[] cells = new int[n];
        for (int c = 0; c < n; c++) {
            cells[c] = java.lang.reflect.Array.getInt(row, i + c);
        }
        return cells;
    }

    private int sea(int sheet, int lane, int i, int n) {
        if (!in(sheet, 0, 3)) { return UNKNOWN; }
        if (!in(lane, 0, 2)) { return OUTSIDE; }
        int[] codes = taken(sheet, lane, i, n);
        StringBuilder text = new StringBuilder();
        for (int code : codes) {
            text.append(in(code, 1, 127) ? (char) code : '?');
        }
        if (!isText(text.toString())) {
            int good = 0;
            while (good < n && goesOn(text.substring(0, good + 1))) {
                good++;
            }
            return -100 - good;
        }
        take(text.toString());
        return ships.size();
    }

    private static boolean isText(String t) {
        if (!t.matches("y[0-9]{2,6}(;[bcs][0-3][0-9]{6}){1,5}")) {
            return false;
        }
        String[] parts = t.split(";");
        for (int s = 1; s < parts.length; s++) {
            if (parts[s].charAt(3) - '0' >= parts[0].length() - 1) {
                return false;
            }
        }
        return true;
    }

    /** Whether some text begins so: every end of a least text is tried behind it. */
    private static boolean goesOn(String t) {
        String least = "y00;b0000000";
        for (int from = 0; from <= least.length(); from++) {
            if (isText(t + least.substring(from))) {
                return true;
            }
        }
        return false;
    }

    private void take(String t) {
        String[] parts = t.split(";");
        ways = new ArrayList<>();
        ships = new ArrayList<>();
        readings = new ArrayList<>();
        day = 0;
        for (char c : parts[0].substring(1).toCharArray()) {
            ways.add(c - '0');
        }
        for (int s = 1; s < parts.length; s++) {
            Barge b = ofKind("bcs".indexOf(parts[s].charAt(0)));
            b.name = parts[s].charAt(1) - '0';
            b.strength = parts[s].charAt(2) - '0';
            b.port = parts[s].charAt(3) - '0';
            for (int g = 0; g < 4; g++) {
                b.goods[g] = parts[s].charAt(4 + g) - '0';
            }
            ships.add(b);
        }
    }

    private int ofShip(int k, int what) {
        if (!ship(k)) { return UNKNOWN; }
        Barge b = ships.get(k);
        if (in(what, 10, 13)) { return b.goods[what - 10]; }
        if (!in(what, 0, 7)) { return OUTSIDE; }
        int sum = b.goods[0] + b.goods[1] + b.goods[2] + b.goods[3];
        return new int[] {kindOf(b), b.name, b.strength, b.bears(), b.port,
            b.goods[b.name] == 0 ? 1 : 0, b.worth(), sum}[what];
    }

    private int days(int n) {
        if (!in(n, 1, 30)) { return OUTSIDE; }
        if (ships.isEmpty()) { return STATE; }
        int lost = 0;
        for (int d = 0; d < n; d++) {
            day++;
            for (Barge b : ships) {
                lost += b.day(ways) == NONE ? 0 : 1;
            }
        }
        return lost;
    }

    private int loadOff(int k, int good, int n, int sign) {
        if (!ship(k)) { return UNKNOWN; }
        if (!in(good, 0, 3) || !in(n, 1, 9)) { return OUTSIDE; }
        int[] goods = ships.get(k).goods;
        int then = goods[good] + sign * n;
        if (then > 9) { return FULL; }
        if (then < 0) { return STATE; }
        return goods[good] = then;
    }

    private int voyage(int sheet, int lane, int i, int n, int what) {
        if (!in(sheet, 0, 3)) { return UNKNOWN; }
        if (!in(lane, 0, 2) || !in(n, 0, 20)) { return OUTSIDE; }
        if (!in(what, 0, 4) && !in(what, 10, 14)) { return OUTSIDE; }
        int[] cells = taken(sheet, lane, i, 2 * n);
        if (ships.isEmpty()) { return STATE; }
        for (int p = 0; p < n; p++) {
            int a = cells[2 * p], act = cells[2 * p + 1];
            if (!in(act, 0, 8) || act == 8 && !in(a, 0, 9)) { return OUTSIDE; }
            if (act < 8 && !ship(a)) { return UNKNOWN; }
        }
        List<Barge> told = new ArrayList<>();
        for (Barge b : ships) {
            told.add(b.twin());
        }
        int pieces = 0, worth = 0, first = NONE;
        for (int p = 0; p < n; p++) {
            int a = cells[2 * p], act = cells[2 * p + 1];
            if (act < 8) {
                int g = act % 4, then = told.get(a).goods[g] + (act < 4 ? 1 : -1);
                if (!in(then, 0, 9)) {
                    return what == 1 ? p : -100 - p;
                }
                told.get(a).goods[g] = then;
                continue;
            }
            for (int d = 0; d < a; d++) {
                for (int k = 0; k < told.size(); k++) {
                    int g = told.get(k).day(ways);
                    if (g == NONE) { continue; }
                    pieces++;
                    worth += g + 1;
                    first = first == NONE && g == told.get(k).name ? k : first;
                }
            }
        }
        if (what >= 10) { return what - 10 < told.size() ? told.get(what - 10).worth() : NONE; }
        return new int[] {pieces, NONE, met(told), worth, first}[what];
    }

    private static int met(List<Barge> of) {
        int set = 0;
        for (int k = 0; k < of.size(); k++) {
            set |= of.get(k).goods[of.get(k).name] == 0 ? 1 << k : 0;
        }
        return set;
    }

    private int keeps(int k) {
        if (!ship(k)) { return UNKNOWN; }
        Barge b = ships.get(k).twin();
        for (int d = 0; d <= 30; d++) {
            if (b.goods[b.name] == 0) { return d; }
            b.day(ways);
        }
        return NONE;
    }

    private int harbour(int k, int n, int what) {
        if (!ship(k)) { return UNKNOWN; }
        if (!in(n, 0, 30) || !in(what, 0, 1)) { return OUTSIDE; }
        int least = Integer.MAX_VALUE, best = NONE;
        for (int p = ways.size() - 1; p >= 0; p--) {
            Barge b = ships.get(k).twin();
            b.port = p;
            b.days(ways, n);
            int lost = ships.get(k).worth() - b.worth();
            if (lost <= least) {
                least = lost;
                best = p;
            }
        }
        return what == 0 ? best : least;
    }

    private int stow(int k, int n, int pieces, int what) {
        if (!ship(k)) { return UNKNOWN; }
        if (!in(n, 0, 30) || !in(pieces, 0, 12)) { return OUTSIDE; }
        if (!in(what, 0, 1) && !in(what, 10, 13)) { return OUTSIDE; }
        int[] best = null;
        for (int code = 9999; code >= 0; code--) {
            int[] row = {code / 1000, code / 100 % 10, code / 10 % 10, code % 10};
            if (row[0] + row[1] + row[2] + row[3] != pieces) { continue; }
            Barge b = ships.get(k).twin();
            b.goods = row.clone();
            int all = b.worth();
            b.days(ways, n);
            int[] now = {all - b.worth(), b.worth(), row[0], row[1], row[2], row[3]};
            if (best == null || now[0] < best[0] || now[0] == best[0] && now[1] >= best[1]) {
                best = now;
            }
        }
        return best[what < 2 ? what : what - 8];
    }

    private int cover() {
        if (ships.isEmpty()) { return STATE; }
        int all = namesOf((1 << ships.size()) - 1), best = NONE;
        for (int set = (1 << ships.size()) - 1; set > 0; set--) {
            boolean fewer = best == NONE || Integer.bitCount(set) <= Integer.bitCount(best);
            best = namesOf(set) == all && fewer ? set : best;
        }
        return best;
    }

    private int namesOf(int set) {
        int names = 0;
        for (int k = 0; k < ships.size(); k++) {
            names |= (set >> k & 1) << ships.get(k).name;
        }
        return names;
    }

    private int reading(int k, int port, int lost) {
        if (!ship(k) || !port(port)) { return UNKNOWN; }
        if (!in(lost, 0, 1)) { return OUTSIDE; }
        if (readings.size() == 8) { return FULL; }
        readings.add(new int[] {k, port, lost});
        return readings.size() - 1;
    }

    private int back(int k) {
        if (!in(k, 0, readings.size())) { return OUTSIDE; }
        readings = new ArrayList<>(readings.subList(0, readings.size() - k));
        return readings.size();
    }

    private boolean fits(int k, Barge instead) {
        for (int[] r : readings) {
            Barge b = r[0] == k ? instead : ships.get(r[0]);
            if (ways.get(r[1]) > b.bears() != (r[2] == 1)) { return false; }
        }
        return true;
    }

    private int strengths(int k) {
        if (!ship(k)) { return UNKNOWN; }
        int set = 0;
        for (int s = 0; s < 10; s++) {
            Barge b = ships.get(k).twin();
            b.strength = s;
            set += fits(k, b) ? 1 << s : 0;
        }
        return set;
    }

    private int kinds(int k) {
        if (!ship(k)) { return UNKNOWN; }
        int set = 0;
        for (int kind = 0; kind < 3; kind++) {
            Barge b = ofKind(kind);
            b.strength = ships.get(k).strength;
            set += fits(k, b) ? 1 << kind : 0;
        }
        return set;
    }

    private int names(int sheet, int lane, int i, int k, int n) {
        if (!in(sheet, 0, 3) || !ship(k)) { return UNKNOWN; }
        if (!in(lane, 0, 2) || !in(n, 0, 30)) { return OUTSIDE; }
        int[] lost = taken(sheet, lane, i, 4);
        int set = 0;
        for (int name = 0; name < 4; name++) {
            Barge b = ships.get(k).twin();
            b.name = name;
            b.days(ways, n);
            boolean so = true;
            for (int g = 0; g < 4; g++) {
                so &= ships.get(k).goods[g] - b.goods[g] == lost[g];
            }
            set += so ? 1 << name : 0;
        }
        return set;
    }

    private long odds(int k, int good, int which) {
        if (!ship(k) || !in(good, 0, 3) || !in(which, 0, 1)) { return LOST; }
        int upper = 0;
        for (int p = 0; p < ways.size(); p++) {
            upper += lostFrom(k, p) == good ? 1 : 0;
        }
        return share(upper, ways.size(), which);
    }

    private long premium(int k, int which) {
        if (!ship(k) || !in(which, 0, 1)) { return LOST; }
        int upper = 0;
        for (int p = 0; p < ways.size(); p++) {
            int good = lostFrom(k, p);
            upper += good == NONE ? 0 : good + 1;
        }
        return share(upper, ways.size(), which);
    }

    private int lostFrom(int k, int port) {
        Barge b = ships.get(k).twin();
        b.port = port;
        return b.day(ways);
    }

    private static long share(int upper, int lower, int which) {
        int a = upper, b = lower;
        while (b != 0) {
            int rest = a % b;
            a = b;
            b = rest;
        }
        return which == 0 ? upper / a : lower / a;
    }

    private int sheet(int k, int lane, int n) {
        if (!in(k, 0, 3)) { return UNKNOWN; }
        if (!in(lane, 0, 2) || n > 60) { return OUTSIDE; }
        if (n < 0) { throw new Faulted(4); }
        sheets[k] = lane == 0 ? new byte[n] : lane == 1 ? new short[n] : (Object) new int[n];
        return 1;
    }

    private int lose(int k) {
        if (!in(k, 0, 3)) { return UNKNOWN; }
        int had = sheets[k] == null ? 0 : 1;
        sheets[k] = null;
        return had;
    }

    private int put(int k, int i, int v) {
        if (!in(k, 0, 3)) { return UNKNOWN; }
        if (sheets[k] == null) { throw new Faulted(1); }
        try {
            if (sheets[k] instanceof byte[] b) { b[i] = (byte) v; }
            if (sheets[k] instanceof short[] s) { s[i] = (short) v; }
            if (sheets[k] instanceof int[] w) { w[i] = v; }
        } catch (ArrayIndexOutOfBoundsException e) {
            throw new Faulted(3);
        }
        return 1;
    }

    private long cell(int k, int i, int lane) {
        if (!in(k, 0, 3) || !in(lane, 0, 2)) { return LOST; }
        return taken(k, lane, i, 1)[0];
    }

    private int copy(int k, int i, int other, int j, int n) {
        if (!in(k, 0, 3) || !in(other, 0, 3)) { return UNKNOWN; }
        try {
            System.arraycopy(sheets[k], i, sheets[other], j, n);
        } catch (NullPointerException e) {
            throw new Faulted(1);
        } catch (ArrayStoreException e) {
            throw new Faulted(2);
        } catch (IndexOutOfBoundsException e) {
            throw new Faulted(3);
        }
        return n;
    }

    private int as(int k, int kind) {
        if (!ship(k)) { return UNKNOWN; }
        if (!in(kind, 0, 2)) { return OUTSIDE; }
        Class<?> c = kind == 2 ? Sloop.class : kind == 1 ? Cutter.class : Barge.class;
        if (!c.isInstance(ships.get(k))) { throw new Faulted(2); }
        return 1;
    }

    private int many(int what) {
        if (!in(what, 0, 4)) { return OUTSIDE; }
        return new int[] {ships.size(), ways.size(), day, Integer.bitCount(met(ships)),
            readings.size()}[what];
    }

    private int blow(int port, int v) {
        if (!port(port)) { return UNKNOWN; }
        return in(v, 0, 9) ? ways.set(port, v) : OUTSIDE;
    }

    private int name(int k, int good) {
        if (!ship(k)) { return UNKNOWN; }
        if (!in(good, 0, 3)) { return OUTSIDE; }
        int was = ships.get(k).name;
        ships.get(k).name = good;
        return was;
    }

    /** A call by its name. */
    long call(String name, int[] a) {
        boolean names = List.of("sea", "voyage", "names", "sheet", "put", "cell", "copy", "as")
            .contains(name);
        try {
            if (names) {
                fault = 0;
            }
            return answer(name, a);
        } catch (Faulted f) {
            fault = f.fault;
            return name.equals("cell") ? LOST : -10 - fault;
        }
    }

    private long answer(String name, int[] a) {
        switch (name) {
            case "sea": return sea(a[0], a[1], a[2], a[3]);
            case "ofShip": return ofShip(a[0], a[1]);
            case "rough": return port(a[0]) ? ways.get(a[0]) : UNKNOWN;
            case "blow": return blow(a[0], a[1]);
            case "name": return name(a[0], a[1]);
            case "days": return days(a[0]);
            case "load": return loadOff(a[0], a[1], a[2], 1);
            case "off": return loadOff(a[0], a[1], a[2], -1);
            case "voyage": return voyage(a[0], a[1], a[2], a[3], a[4]);
            case "keeps": return keeps(a[0]);
            case "harbour": return harbour(a[0], a[1], a[2]);
            case "stow": return stow(a[0], a[1], a[2], a[3]);
            case "cover": return cover();
            case "reading": return reading(a[0], a[1], a[2]);
            case "back": return back(a[0]);
            case "strengths": return strengths(a[0]);
            case "kinds": return kinds(a[0]);
            case "names": return names(a[0], a[1], a[2], a[3], a[4]);
            case "odds": return odds(a[0], a[1], a[2]);
            case "premium": return premium(a[0], a[1]);
            case "sheet": return sheet(a[0], a[1], a[2]);
            case "lose": return lose(a[0]);
            case "put": return put(a[0], a[1], a[2]);
            case "cell": return cell(a[0], a[1], a[2]);
            case "copy": return copy(a[0], a[1], a[2], a[3], a[4]);
            case "tell": return ship(a[0]) ? ships.get(a[0]).tell(this) : UNKNOWN;
            case "hail": return ship(a[0]) ? ships.get(a[0]).hail(this) : UNKNOWN;
            case "as": return as(a[0], a[1]);
            case "trace": return trace;
            case "fault": return fault;
            case "many": return many(a[0]);
            default: throw new IllegalStateException(name);
        }
    }
}
