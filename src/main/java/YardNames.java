public final class YardNames {
    public static final int UNKNOWN = -1, OUTSIDE = -2, STATE = -3, FULL = -4, NONE = -9;
    public static final long LOST = Long.MIN_VALUE;

    private static final int NO_FAULT = 0, NULL = 1, CAST = 2, INDEX = 3, SIZE = 4;
    private static final int BARGE = 0, CUTTER = 1, SLOOP = 2, KINDS = 3;
    private static final int GOODS = 4, MOST_PIECES = 9, MOST_STRENGTH = 9, MOST_ROUGH = 9;
    private static final int LEAST_PORTS = 2, MOST_PORTS = 6, MOST_SHIPS = 5, SHIP_CODES = 9;
    private static final int MOST_DAYS = 30, MOST_TOLD_DAYS = 9, MOST_STOWED = 12;
    private static final int MOST_PAIRS = 20, ACT_DAYS = 8, MOST_READINGS = 8;
    private static final int SHEETS = 4, LANES = 3, MOST_CELLS = 60;
    /** More than what is lost by any way to STOW: its dearest pieces are worth GOODS each. */
    private static final int BEYOND_LOSS = MOST_STOWED * GOODS + 1;

    private final int[] roughs = new int[MOST_PORTS];
    private int portCount;
    private final Ship[] fleet = new Ship[MOST_SHIPS];
    private int shipCount;
    private int today;

    /** These sail a VOYAGE that is told in the fleet's stead, so that it changes nothing. */
    private final Ship[] toldFleet = new Ship[MOST_SHIPS];
    private final Tally tally = new Tally();
    private final Stowing stowing = new Stowing();
    private final int[] losses = new int[GOODS];

    private final int[] readShips = new int[MOST_READINGS];
    private final int[] readPorts = new int[MOST_READINGS];
    private final int[] readLosses = new int[MOST_READINGS];
    private int readingCount;

    private final Row[] rows = new Row[SHEETS];
    private int traced;
    private int lastFault;

    public YardNames() {
        for (int k = 0; k < MOST_SHIPS; k++) {
            fleet[k] = new Ship();
            toldFleet[k] = new Ship();
        }
        for (int k = 0; k < SHEETS; k++) {
            rows[k] = new Row();
        }
    }

    // ---- 1 the sea

    public int sea(int sheet, int lane, int i, int n) {
        lastFault = NO_FAULT;
        if (!isSheet(sheet)) {
            return UNKNOWN;
        }
        if (!isBelow(lane, LANES)) {
            return OUTSIDE;
        }
        Row row = rows[sheet];
        int found = row.faultOfTaking(lane, i, n);
        if (found != NO_FAULT) {
            return faulted(found);
        }
        int wrong = firstFault(row, i, n);
        if (wrong != NONE) {
            return -100 - wrong;
        }
        takeText(row, i, n);
        return shipCount;
    }

    public int ofShip(int k, int what) {
        if (!isShip(k)) {
            return UNKNOWN;
        }
        Ship s = fleet[k];
        switch (what) {
            case 0: return s.kind;
            case 1: return s.namedAfter;
            case 2: return s.strength;
            case 3: return s.bearing();
            case 4: return s.port;
            case 5: return s.isMet() ? 1 : 0;
            case 6: return s.worth();
            case 7: return s.pieces();
            default: return isGood(what - 10) ? s.carried[what - 10] : OUTSIDE;
        }
    }

    public int rough(int port) {
        return isPort(port) ? roughs[port] : UNKNOWN;
    }

    public int blow(int port, int v) {
        if (!isPort(port)) {
            return UNKNOWN;
        }
        if (!isUpTo(v, MOST_ROUGH)) {
            return OUTSIDE;
        }
        int before = roughs[port];
        roughs[port] = v;
        return before;
    }

    public int name(int k, int good) {
        if (!isShip(k)) {
            return UNKNOWN;
        }
        if (!isGood(good)) {
            return OUTSIDE;
        }
        int before = fleet[k].namedAfter;
        fleet[k].namedAfter = good;
        return before;
    }

    // ---- 2 days

    public int days(int n) {
        if (n < 1 || n > MOST_DAYS) {
            return OUTSIDE;
        }
        if (!hasSea()) {
            return STATE;
        }
        int lost = 0;
        for (int d = 0; d < n; d++) {
            for (int k = 0; k < shipCount; k++) {
                if (sailDay(fleet[k]) != NONE) {
                    lost++;
                }
            }
        }
        today += n;
        return lost;
    }

    public int load(int k, int good, int n) {
        if (!isShip(k)) {
            return UNKNOWN;
        }
        if (!isGood(good) || !isLot(n)) {
            return OUTSIDE;
        }
        int[] carried = fleet[k].carried;
        if (carried[good] + n > MOST_PIECES) {
            return FULL;
        }
        carried[good] += n;
        return carried[good];
    }

    public int off(int k, int good, int n) {
        if (!isShip(k)) {
            return UNKNOWN;
        }
        if (!isGood(good) || !isLot(n)) {
            return OUTSIDE;
        }
        int[] carried = fleet[k].carried;
        if (carried[good] < n) {
            return STATE;
        }
        carried[good] -= n;
        return carried[good];
    }

    public int voyage(int sheet, int lane, int i, int n, int what) {
        lastFault = NO_FAULT;
        if (!isSheet(sheet)) {
            return UNKNOWN;
        }
        if (!isBelow(lane, LANES) || !isUpTo(n, MOST_PAIRS) || !isAskedOfVoyage(what)) {
            return OUTSIDE;
        }
        Row row = rows[sheet];
        int found = row.faultOfTaking(lane, i, 2 * n);
        if (found != NO_FAULT) {
            return faulted(found);
        }
        if (!hasSea()) {
            return STATE;
        }
        int refused = refusalOfPairs(row, i, n);
        if (refused != 0) {
            return refused;
        }
        int wrong = sailVoyage(row, i, n);
        if (what == 1) {
            return wrong;
        }
        return wrong == NONE ? ofVoyage(what) : -100 - wrong;
    }

    // ---- 3 days to come

    public int keeps(int k) {
        if (!isShip(k)) {
            return UNKNOWN;
        }
        Ship s = fleet[k];
        int bearing = s.bearing();
        int kept = s.carried[s.namedAfter];
        int port = s.port;
        int d = 0;
        while (kept > 0 && d < MOST_DAYS) {
            if (roughs[port] > bearing) {
                kept--;
            }
            port = portBehind(port);
            d++;
        }
        return kept == 0 ? d : NONE;
    }

    public int harbour(int k, int n, int what) {
        if (!isShip(k)) {
            return UNKNOWN;
        }
        if (!isUpTo(n, MOST_DAYS) || !isUpTo(what, 1)) {
            return OUTSIDE;
        }
        Ship s = fleet[k];
        int best = 0;
        int least = worthLostFrom(s, 0, n);
        for (int port = 1; port < portCount; port++) {
            int lost = worthLostFrom(s, port, n);
            if (lost < least) {
                best = port;
                least = lost;
            }
        }
        return what == 0 ? best : least;
    }

    public int stow(int k, int n, int pieces, int what) {
        if (!isShip(k)) {
            return UNKNOWN;
        }
        if (!isUpTo(n, MOST_DAYS) || !isUpTo(pieces, MOST_STOWED)) {
            return OUTSIDE;
        }
        if (!isUpTo(what, 1) && !isGood(what - 10)) {
            return OUTSIDE;
        }
        Ship s = fleet[k];
        stowing.choose(pieces, s.namedAfter, roughDays(s.bearing(), s.port, n));
        if (what == 0) {
            return stowing.leastLost;
        }
        return what == 1 ? stowing.mostLeft : stowing.best[what - 10];
    }

    public int cover() {
        if (!hasSea()) {
            return STATE;
        }
        // One SHIP a NAME is the fewest, and the first of each NAME makes the least set.
        int covered = 0;
        int chosen = 0;
        for (int k = 0; k < shipCount; k++) {
            int bit = 1 << fleet[k].namedAfter;
            if ((covered & bit) == 0) {
                covered |= bit;
                chosen |= 1 << k;
            }
        }
        return chosen;
    }

    // ---- 4 what was lost

    public int reading(int k, int port, int lost) {
        if (!isShip(k) || !isPort(port)) {
            return UNKNOWN;
        }
        if (!isUpTo(lost, 1)) {
            return OUTSIDE;
        }
        if (readingCount >= MOST_READINGS) {
            return FULL;
        }
        readShips[readingCount] = k;
        readPorts[readingCount] = port;
        readLosses[readingCount] = lost;
        readingCount++;
        return readingCount - 1;
    }

    public int back(int k) {
        if (!isUpTo(k, readingCount)) {
            return OUTSIDE;
        }
        readingCount -= k;
        return readingCount;
    }

    public int strengths(int k) {
        if (!isShip(k)) {
            return UNKNOWN;
        }
        int fitting = 0;
        for (int strength = 0; strength <= MOST_STRENGTH; strength++) {
            if (readingsAreSo(k, bearingOf(fleet[k].kind, strength))) {
                fitting |= 1 << strength;
            }
        }
        return fitting;
    }

    public int kinds(int k) {
        if (!isShip(k)) {
            return UNKNOWN;
        }
        int fitting = 0;
        for (int kind = 0; kind < KINDS; kind++) {
            if (readingsAreSo(k, bearingOf(kind, fleet[k].strength))) {
                fitting |= 1 << kind;
            }
        }
        return fitting;
    }

    public int names(int sheet, int lane, int i, int k, int n) {
        lastFault = NO_FAULT;
        if (!isSheet(sheet) || !isShip(k)) {
            return UNKNOWN;
        }
        if (!isBelow(lane, LANES) || !isUpTo(n, MOST_DAYS)) {
            return OUTSIDE;
        }
        Row row = rows[sheet];
        int found = row.faultOfTaking(lane, i, GOODS);
        if (found != NO_FAULT) {
            return faulted(found);
        }
        Ship s = fleet[k];
        int roughCount = roughDays(s.bearing(), s.port, n);
        int fitting = 0;
        for (int good = 0; good < GOODS; good++) {
            fillLosses(s.carried, good, roughCount, losses);
            if (row.standsAt(i, losses)) {
                fitting |= 1 << good;
            }
        }
        return fitting;
    }

    public long odds(int k, int good, int which) {
        if (!isShip(k) || !isGood(good) || !isUpTo(which, 1)) {
            return LOST;
        }
        Ship s = fleet[k];
        int upper = s.goodThatGoes() == good ? roughPorts(s.bearing()) : 0;
        return ofShare(upper, portCount, which);
    }

    public long premium(int k, int which) {
        if (!isShip(k) || !isUpTo(which, 1)) {
            return LOST;
        }
        Ship s = fleet[k];
        int good = s.goodThatGoes();
        int upper = good == NONE ? 0 : roughPorts(s.bearing()) * worthOf(good);
        return ofShare(upper, portCount, which);
    }

    // ---- 5 sheets, parts

    public int sheet(int k, int lane, int n) {
        lastFault = NO_FAULT;
        if (!isSheet(k)) {
            return UNKNOWN;
        }
        if (!isBelow(lane, LANES) || n > MOST_CELLS) {
            return OUTSIDE;
        }
        if (n < 0) {
            return faulted(SIZE);
        }
        rows[k].begin(lane, n);
        return 1;
    }

    public int lose(int k) {
        if (!isSheet(k)) {
            return UNKNOWN;
        }
        int had = rows[k].isThere ? 1 : 0;
        rows[k].isThere = false;
        return had;
    }

    public int put(int k, int i, int v) {
        lastFault = NO_FAULT;
        if (!isSheet(k)) {
            return UNKNOWN;
        }
        Row row = rows[k];
        if (!row.isThere) {
            return faulted(NULL);
        }
        if (!row.reaches(i, 1)) {
            return faulted(INDEX);
        }
        row.cells[i] = cutTo(row.lane, v);
        return 1;
    }

    public long cell(int k, int i, int lane) {
        lastFault = NO_FAULT;
        if (!isSheet(k) || !isBelow(lane, LANES)) {
            return LOST;
        }
        Row row = rows[k];
        lastFault = row.faultOfTaking(lane, i, 1);
        return lastFault == NO_FAULT ? row.cells[i] : LOST;
    }

    public int copy(int k, int i, int other, int j, int n) {
        lastFault = NO_FAULT;
        if (!isSheet(k) || !isSheet(other)) {
            return UNKNOWN;
        }
        Row from = rows[k];
        Row to = rows[other];
        if (!from.isThere || !to.isThere) {
            return faulted(NULL);
        }
        if (from.lane != to.lane) {
            return faulted(CAST);
        }
        if (n < 0 || !from.reaches(i, n) || !to.reaches(j, n)) {
            return faulted(INDEX);
        }
        System.arraycopy(from.cells, i, to.cells, j, n);
        return n;
    }

    public int tell(int k) {
        if (!isShip(k)) {
            return UNKNOWN;
        }
        Ship s = fleet[k];
        switch (s.kind) {
            case SLOOP: return tellSloop(s);
            case CUTTER: return tellCutter(s);
            default: return tellBarge(s);
        }
    }

    public int hail(int k) {
        if (!isShip(k)) {
            return UNKNOWN;
        }
        return fleet[k].kind == SLOOP ? hailSloop() : hailLent(fleet[k]);
    }

    public int as(int k, int kind) {
        lastFault = NO_FAULT;
        if (!isShip(k)) {
            return UNKNOWN;
        }
        if (!isBelow(kind, KINDS)) {
            return OUTSIDE;
        }
        // Each kind is all the kinds that are numbered below it, too.
        return kind > fleet[k].kind ? faulted(CAST) : 1;
    }

    public int trace() {
        return traced;
    }

    public int fault() {
        return lastFault;
    }

    public int many(int what) {
        switch (what) {
            case 0: return shipCount;
            case 1: return portCount;
            case 2: return today;
            case 3: return Integer.bitCount(metOf(fleet));
            case 4: return readingCount;
            default: return OUTSIDE;
        }
    }

    // ---- what is there

    private boolean hasSea() {
        return shipCount > 0;
    }

    private boolean isShip(int k) {
        return isBelow(k, shipCount);
    }

    private boolean isPort(int port) {
        return isBelow(port, portCount);
    }

    private static boolean isSheet(int k) {
        return isBelow(k, SHEETS);
    }

    private static boolean isGood(int good) {
        return isBelow(good, GOODS);
    }

    private static boolean isLot(int n) {
        return n >= 1 && n <= MOST_PIECES;
    }

    private static boolean isBelow(int v, int end) {
        return v >= 0 && v < end;
    }

    private static boolean isUpTo(int v, int most) {
        return v >= 0 && v <= most;
    }

    private int faulted(int found) {
        lastFault = found;
        return -10 - found;
    }

    // ---- a TEXT

    /** The FIRST FAULT of a TEXT; NONE: it is taken. */
    private static int firstFault(Row row, int from, int n) {
        if (n < 1 || row.codeAt(from) != 'y') {
            return 0;
        }
        int ports = countPorts(row, from, n);
        int place = 1 + ports;
        if (ports < LEAST_PORTS) {
            return place;
        }
        for (int ship = 0; ship < MOST_SHIPS; ship++) {
            if (place == n && ship > 0) {
                return NONE;
            }
            int fit = countShipCodes(row, from + place, n - place, ports);
            place += fit;
            if (fit < SHIP_CODES) {
                return place;
            }
        }
        return place == n ? NONE : place;
    }

    private static int countPorts(Row row, int from, int n) {
        int ports = 0;
        while (ports < MOST_PORTS && 1 + ports < n && isDigit(row.codeAt(from + 1 + ports), 10)) {
            ports++;
        }
        return ports;
    }

    /** How many codes in a row are as a SHIP's codes must be: SHIP_CODES, if it is whole. */
    private static int countShipCodes(Row row, int from, int n, int ports) {
        int fit = 0;
        while (fit < SHIP_CODES && fit < n && isShipCode(fit, row.codeAt(from + fit), ports)) {
            fit++;
        }
        return fit;
    }

    private static boolean isShipCode(int place, int code, int ports) {
        switch (place) {
            case 0: return code == ';';
            case 1: return kindByCode(code) != NONE;
            case 2: return isDigit(code, GOODS);
            case 4: return isDigit(code, ports);
            default: return isDigit(code, 10);
        }
    }

    private static boolean isDigit(int code, int end) {
        return code >= '0' && code < '0' + end;
    }

    private static int kindByCode(int code) {
        switch (code) {
            case 'b': return BARGE;
            case 'c': return CUTTER;
            case 's': return SLOOP;
            default: return NONE;
        }
    }

    /** Makes all anew by a TEXT that has no FIRST FAULT. */
    private void takeText(Row row, int from, int n) {
        portCount = countPorts(row, from, n);
        for (int port = 0; port < portCount; port++) {
            roughs[port] = row.digitAt(from + 1 + port);
        }
        int place = 1 + portCount;
        shipCount = 0;
        while (shipCount < MOST_SHIPS && place < n) {
            takeShip(fleet[shipCount], row, from + place);
            shipCount++;
            place += SHIP_CODES;
        }
        today = 0;
        readingCount = 0;
    }

    private static void takeShip(Ship s, Row row, int at) {
        s.kind = kindByCode(row.codeAt(at + 1));
        s.namedAfter = row.digitAt(at + 2);
        s.strength = row.digitAt(at + 3);
        s.port = row.digitAt(at + 4);
        for (int good = 0; good < GOODS; good++) {
            s.carried[good] = row.digitAt(at + 5 + good);
        }
    }

    // ---- DAYS

    private int portBehind(int port) {
        return port + 1 < portCount ? port + 1 : 0;
    }

    /** A DAY of one SHIP: the GOOD of which it loses a piece; NONE: it loses nothing. */
    private int sailDay(Ship s) {
        int good = roughs[s.port] > s.bearing() ? s.goodThatGoes() : NONE;
        if (good != NONE) {
            s.carried[good]--;
        }
        s.port = portBehind(s.port);
        return good;
    }

    /** On how many of n DAYS, from a PORT on, the way is rougher than one bears. */
    private int roughDays(int bearing, int from, int n) {
        int port = from;
        int count = 0;
        for (int d = 0; d < n; d++) {
            if (roughs[port] > bearing) {
                count++;
            }
            port = portBehind(port);
        }
        return count;
    }

    private int roughPorts(int bearing) {
        return roughDays(bearing, 0, portCount);
    }

    private int worthLostFrom(Ship s, int port, int n) {
        fillLosses(s.carried, s.namedAfter, roughDays(s.bearing(), port, n), losses);
        return worthOfAll(losses);
    }

    /** A piece goes each rough day: while there are any those of the NAME, then the least GOODS. */
    private static void fillLosses(int[] carried, int namedAfter, int roughCount, int[] lost) {
        int left = roughCount;
        lost[namedAfter] = Math.min(left, carried[namedAfter]);
        left -= lost[namedAfter];
        for (int good = 0; good < GOODS; good++) {
            if (good != namedAfter) {
                lost[good] = Math.min(left, carried[good]);
                left -= lost[good];
            }
        }
    }

    private static int worthOf(int good) {
        return good + 1;
    }

    private static int worthOfAll(int[] pieces) {
        int sum = 0;
        for (int good = 0; good < GOODS; good++) {
            sum += pieces[good] * worthOf(good);
        }
        return sum;
    }

    private static int bearingOf(int kind, int strength) {
        switch (kind) {
            case SLOOP: return 2 * strength;
            case CUTTER: return strength + 1;
            default: return strength;
        }
    }

    private int metOf(Ship[] ships) {
        int met = 0;
        for (int k = 0; k < shipCount; k++) {
            if (ships[k].isMet()) {
                met |= 1 << k;
            }
        }
        return met;
    }

    // ---- a VOYAGE

    private static boolean isAskedOfVoyage(int what) {
        return isUpTo(what, 4) || isBelow(what - 10, MOST_SHIPS);
    }

    /** The first refusal of pairs that could not be told of this SEA at all; 0: there is none. */
    private int refusalOfPairs(Row row, int from, int n) {
        for (int pair = 0; pair < n; pair++) {
            int first = row.codeAt(from + 2 * pair);
            int act = row.codeAt(from + 2 * pair + 1);
            if (!isUpTo(act, ACT_DAYS)) {
                return OUTSIDE;
            }
            if (act == ACT_DAYS && !isUpTo(first, MOST_TOLD_DAYS)) {
                return OUTSIDE;
            }
            if (act != ACT_DAYS && !isShip(first)) {
                return UNKNOWN;
            }
        }
        return 0;
    }

    /** Sails it with the told fleet, as far as it can be: its FIRST WRONG; NONE. */
    private int sailVoyage(Row row, int from, int n) {
        for (int k = 0; k < shipCount; k++) {
            toldFleet[k].becomeLike(fleet[k]);
        }
        tally.begin();
        for (int pair = 0; pair < n; pair++) {
            int first = row.codeAt(from + 2 * pair);
            int act = row.codeAt(from + 2 * pair + 1);
            if (act == ACT_DAYS) {
                sailToldDays(first);
            } else if (!isShip(first) || !toldFleet[first].doAct(act)) {
                return pair;
            }
        }
        return NONE;
    }

    private void sailToldDays(int n) {
        for (int d = 0; d < n; d++) {
            for (int k = 0; k < shipCount; k++) {
                int good = sailDay(toldFleet[k]);
                if (good != NONE) {
                    tally.count(k, good, good == toldFleet[k].namedAfter);
                }
            }
        }
    }

    private int ofVoyage(int what) {
        switch (what) {
            case 0: return tally.lostPieces;
            case 2: return metOf(toldFleet);
            case 3: return tally.lostWorth;
            case 4: return tally.firstShip;
            default: return isShip(what - 10) ? toldFleet[what - 10].worth() : NONE;
        }
    }

    // ---- READINGS, shares

    /** Whether all READINGS are so, if SHIP k bore this and the others what they do. */
    private boolean readingsAreSo(int k, int bearing) {
        for (int r = 0; r < readingCount; r++) {
            int bears = readShips[r] == k ? bearing : fleet[readShips[r]].bearing();
            int lost = roughs[readPorts[r]] > bears ? 1 : 0;
            if (lost != readLosses[r]) {
                return false;
            }
        }
        return true;
    }

    /** The upper (which 0) or lower number of a share in least terms. */
    private static long ofShare(int upper, int lower, int which) {
        int number = which == 0 ? upper : lower;
        int common = commonDivisor(upper, lower);
        return common > 1 ? number / common : number;
    }

    private static int commonDivisor(int upper, int lower) {
        for (int d = lower; d > 1; d--) {
            if (upper % d == 0 && lower % d == 0) {
                return d;
            }
        }
        return 1;
    }

    // ---- TELLING

    private void leave(int body) {
        traced = 31 * traced + body;
    }

    private int tellBarge(Ship s) {
        leave(1);
        return s.strength;
    }

    private int tellCutter(Ship s) {
        leave(2);
        return tellBarge(s) + 100;
    }

    private int tellSloop(Ship s) {
        leave(3);
        int first = tellCutter(s);
        return first + tellBarge(s);
    }

    private int hailLent(Ship s) {
        leave(4);
        return s.namedAfter;
    }

    private int hailSloop() {
        leave(5);
        return 60;
    }

    private static int cutTo(int lane, int v) {
        switch (lane) {
            case 0: return (byte) v;
            case 1: return (short) v;
            default: return v;
        }
    }

    private static final class Ship {
        int kind;
        int namedAfter;
        int strength;
        int port;
        final int[] carried = new int[GOODS];

        int bearing() {
            return bearingOf(kind, strength);
        }

        boolean isMet() {
            return carried[namedAfter] == 0;
        }

        int worth() {
            return worthOfAll(carried);
        }

        int pieces() {
            int sum = 0;
            for (int good = 0; good < GOODS; good++) {
                sum += carried[good];
            }
            return sum;
        }

        /** The GOOD of which it loses a piece on a way that is too rough; NONE: it carries none. */
        int goodThatGoes() {
            if (!isMet()) {
                return namedAfter;
            }
            for (int good = 0; good < GOODS; good++) {
                if (carried[good] > 0) {
                    return good;
                }
            }
            return NONE;
        }

        /** An act 0 .. 7 of a VOYAGE: whether it can be. */
        boolean doAct(int act) {
            int good = act < GOODS ? act : act - GOODS;
            int after = isGood(good) ? carried[good] + (act < GOODS ? 1 : -1) : NONE;
            if (!isUpTo(after, MOST_PIECES)) {
                return false;
            }
            carried[good] = after;
            return true;
        }

        void becomeLike(Ship other) {
            kind = other.kind;
            namedAfter = other.namedAfter;
            strength = other.strength;
            port = other.port;
            System.arraycopy(other.carried, 0, carried, 0, GOODS);
        }
    }

    /** What a SHEET has; it is made once and used again for each new row. */
    private static final class Row {
        boolean isThere;
        int lane;
        int length;
        final int[] cells = new int[MOST_CELLS];

        void begin(int newLane, int n) {
            isThere = true;
            lane = newLane;
            length = n;
            for (int i = 0; i < n && i < MOST_CELLS; i++) {
                cells[i] = 0;
            }
        }

        /** Whether n cells from i on are there (by a difference: a sum could wrap). */
        boolean reaches(int i, int n) {
            return isUpTo(i, length) && n <= length - i;
        }

        /** The first FAULT of taking n cells from i on of it as a row of a LANE. */
        int faultOfTaking(int asLane, int i, int n) {
            if (isThere && lane != asLane) {
                return CAST;
            }
            if (!isThere) {
                return NULL;
            }
            if (n < 0) {
                return SIZE;
            }
            return reaches(i, n) ? NO_FAULT : INDEX;
        }

        int codeAt(int i) {
            return isBelow(i, length) ? cells[i] : NONE;
        }

        int digitAt(int i) {
            return codeAt(i) - '0';
        }

        boolean standsAt(int from, int[] numbers) {
            for (int good = 0; good < GOODS; good++) {
                if (codeAt(from + good) != numbers[good]) {
                    return false;
                }
            }
            return true;
        }
    }

    /** What is lost in a VOYAGE. */
    private static final class Tally {
        int lostPieces;
        int lostWorth;
        int firstShip;

        void begin() {
            lostPieces = 0;
            lostWorth = 0;
            firstShip = NONE;
        }

        void count(int ship, int good, boolean isName) {
            lostPieces++;
            lostWorth += worthOf(good);
            if (isName && firstShip == NONE) {
                firstShip = ship;
            }
        }
    }

    /** The choice of what to STOW. */
    private static final class Stowing {
        int leastLost;
        int mostLeft;
        final int[] best = new int[GOODS];
        private final int[] tried = new int[GOODS];
        private final int[] lost = new int[GOODS];

        /** Tries all rows, first ones first, so that only a better one takes the place of the best. */
        void choose(int pieces, int namedAfter, int roughCount) {
            leastLost = BEYOND_LOSS;
            mostLeft = 0;
            for (int a = 0; a <= Math.min(pieces, MOST_PIECES); a++) {
                tried[0] = a;
                for (int b = 0; b <= Math.min(pieces - a, MOST_PIECES); b++) {
                    tried[1] = b;
                    chooseRest(pieces - a - b, namedAfter, roughCount);
                }
            }
        }

        private void chooseRest(int pieces, int namedAfter, int roughCount) {
            for (int c = 0; c <= Math.min(pieces, MOST_PIECES); c++) {
                tried[2] = c;
                tried[3] = pieces - c;
                if (tried[3] <= MOST_PIECES) {
                    weigh(namedAfter, roughCount);
                }
            }
        }

        private void weigh(int namedAfter, int roughCount) {
            fillLosses(tried, namedAfter, roughCount, lost);
            int worthLost = worthOfAll(lost);
            int worthLeft = worthOfAll(tried) - worthLost;
            if (worthLost < leastLost || worthLost == leastLost && worthLeft > mostLeft) {
                leastLost = worthLost;
                mostLeft = worthLeft;
                System.arraycopy(tried, 0, best, 0, GOODS);
            }
        }
    }
}
