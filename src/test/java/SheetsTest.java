/** Promises 22 to 32: sheet, lose, put, cell, copy, tell, hail, as, trace, fault, many. */
public final class SheetsTest {
    private static final Checks C = new Checks("SheetsTest");

    public static void main(String[] args) {
        sheet();
        lose();
        putCutsToTheLane();
        putAndCellFaults();
        copy();
        copyFaults();
        tellHailTrace();
        as();
        fault();
        many();
        C.end();
    }

    private static void lost(YardNames x, String what, long got, int fault) {
        C.due(what, got, YardNames.LOST);
        C.due("fault() of " + what, x.fault(), fault);
    }

    private static void sheet() {
        YardNames x = new YardNames();
        C.due("60 ints", x.sheet(3, 2, 60), 1);
        C.due("its last cell", x.put(3, 59, 7), 1);
        C.due("a new row", x.sheet(3, 2, 60), 1);
        C.due("is 0", x.cell(3, 59, 2), 0);
        C.due("a row of none", x.sheet(0, 0, 0), 1);
        lost(x, "has no cell", x.cell(0, 0, 0), 3);
        C.due("61", x.sheet(3, 2, 61), YardNames.OUTSIDE);
        C.faulted(x, "-1", x.sheet(3, 2, -1), 4);
        C.faulted(x, "edge of int", x.sheet(3, 2, Integer.MIN_VALUE), 4);
        C.due("-1, lane 3", x.sheet(3, 3, -1), YardNames.OUTSIDE);
        C.due("fault() of it", x.fault(), 0);
        C.due("-1, lane 3, sheet 4", x.sheet(4, 3, -1), YardNames.UNKNOWN);
        C.due("its row stays", x.put(3, 59, 7), 1);
        C.due("a shorter row", x.sheet(3, 2, 59), 1);
        lost(x, "is shorter", x.cell(3, 59, 2), 3);
        for (int wild : Checks.WILD) {
            C.due("sheet(" + wild + ")", x.sheet(wild, 0, 0), YardNames.UNKNOWN);
            C.due("sheet lane " + wild, x.sheet(0, wild, 0), YardNames.OUTSIDE);
            C.due("sheet n " + wild, x.sheet(0, 0, wild), wild < 0 ? -14 : YardNames.OUTSIDE);
        }
    }

    private static void lose() {
        YardNames x = new YardNames();
        C.due("had nothing", x.lose(1), 0);
        x.sheet(1, 1, 0);
        C.due("had a row of none", x.lose(1), 1);
        C.due("has nothing", x.lose(1), 0);
        x.sheet(1, 1, 3);
        x.put(1, 0, 5);
        x.lose(1);
        lost(x, "its cell", x.cell(1, 0, 1), 1);
        lost(x, "its cell, of another lane: nothing is no cast", x.cell(1, 0, 2), 1);
        x.put(1, 9, 9);
        C.due("lose names no fault", x.lose(1), 0);
        C.due("so that stays", x.fault(), 1);
        C.due("refused", x.lose(4), YardNames.UNKNOWN);
        C.due("that stays too", x.fault(), 1);
        x.sheet(1, 1, 3);
        C.due("anew", x.cell(1, 0, 1), 0);
        for (int wild : Checks.WILD) {
            C.due("lose(" + wild + ")", x.lose(wild), YardNames.UNKNOWN);
        }
    }

    private static void putCutsToTheLane() {
        int[] values = {0, 1, -1, 127, 128, -128, -129, 255, 256, 32767, 32768, -32768, -32769,
            65535, 65536, 8388607, Integer.MAX_VALUE, Integer.MIN_VALUE};
        for (int lane = 0; lane < 3; lane++) {
            YardNames x = new YardNames();
            x.sheet(2, lane, 2);
            for (int v : values) {
                C.due("put", x.put(2, 1, v), 1);
                long want = lane == 0 ? (byte) v : lane == 1 ? (short) v : v;
                C.due("cell of lane " + lane + " behind " + v, x.cell(2, 1, lane), want);
                C.due("its neighbour", x.cell(2, 0, lane), 0);
            }
        }
    }

    private static void putAndCellFaults() {
        YardNames x = new YardNames();
        x.sheet(0, 1, 3);
        C.faulted(x, "put 3", x.put(0, 3, 1), 3);
        C.faulted(x, "put -1", x.put(0, -1, 1), 3);
        C.faulted(x, "put on nothing", x.put(1, -1, 1), 1);
        C.due("put on 4", x.put(4, -1, 1), YardNames.UNKNOWN);
        C.due("fault() of it", x.fault(), 0);
        lost(x, "cell 3", x.cell(0, 3, 1), 3);
        lost(x, "cell -1", x.cell(0, -1, 1), 3);
        lost(x, "cell 3 as an int", x.cell(0, 3, 2), 2);
        lost(x, "cell of nothing", x.cell(1, 3, 2), 1);
        lost(x, "cell as of lane 3", x.cell(0, 0, 3), 0);
        lost(x, "cell of 4", x.cell(4, 0, 0), 0);
        C.due("cell 2", x.cell(0, 2, 1), 0);
        C.due("fault() of it", x.fault(), 0);
        for (int wild : Checks.WILD) {
            C.due("put(" + wild + ")", x.put(wild, 0, 0), YardNames.UNKNOWN);
            C.due("put i " + wild, x.put(0, wild, 0), -13);
            lost(x, "cell(" + wild + ")", x.cell(wild, 0, 1), 0);
            lost(x, "cell i " + wild, x.cell(0, wild, 1), 3);
            lost(x, "cell lane " + wild, x.cell(0, 0, wild), 0);
        }
    }

    private static void row(YardNames x, int sheet, int... want) {
        for (int i = 0; i < want.length; i++) {
            C.due("cell " + i + " of " + sheet, x.cell(sheet, i, 2), want[i]);
        }
    }

    private static void copy() {
        YardNames x = new YardNames();
        Checks.putRow(x, 0, 1, 2, 3, 4, 5);
        Checks.putRow(x, 1, 9, 9, 9);
        C.due("three", x.copy(0, 1, 1, 0, 3), 3);
        row(x, 1, 2, 3, 4);
        row(x, 0, 1, 2, 3, 4, 5);
        C.due("upwards in one", x.copy(0, 0, 0, 1, 4), 4);
        row(x, 0, 1, 1, 2, 3, 4);
        C.due("downwards in one", x.copy(0, 1, 0, 0, 4), 4);
        row(x, 0, 1, 2, 3, 4, 4);
        C.due("all in one", x.copy(0, 0, 0, 0, 5), 5);
        C.due("none", x.copy(0, 5, 1, 3, 0), 0);
        C.due("no fault", x.fault(), 0);
        row(x, 1, 2, 3, 4);
    }

    private static void copyFaults() {
        YardNames x = new YardNames();
        Checks.putRow(x, 0, 1, 2, 3, 4, 5);
        Checks.putRow(x, 1, 9, 9, 9);
        x.sheet(2, 0, 5);
        C.due("sheet 4", x.copy(4, 0, 3, 0, 1), YardNames.UNKNOWN);
        C.due("sheet -1 for the other", x.copy(3, 0, -1, 0, 1), YardNames.UNKNOWN);
        C.faulted(x, "from nothing", x.copy(3, -1, 0, 0, 1), 1);
        C.faulted(x, "to nothing", x.copy(0, -1, 3, 0, 1), 1);
        C.faulted(x, "from nothing to nothing", x.copy(3, -1, 3, 0, -1), 1);
        C.faulted(x, "unlike lanes", x.copy(0, -1, 2, 0, -1), 2);
        C.faulted(x, "none of unlike lanes", x.copy(0, 0, 2, 0, 0), 2);
        C.faulted(x, "i -1", x.copy(0, -1, 1, 0, 1), 3);
        C.faulted(x, "j -1", x.copy(0, 0, 1, -1, 1), 3);
        C.faulted(x, "n -1", x.copy(0, 1, 1, 1, -1), 3);
        C.faulted(x, "beyond the first", x.copy(0, 4, 1, 0, 2), 3);
        C.faulted(x, "beyond the other", x.copy(0, 0, 1, 2, 2), 3);
        C.faulted(x, "none from 6 on", x.copy(0, 6, 1, 0, 0), 3);
        C.faulted(x, "none to 4 on", x.copy(0, 0, 1, 4, 0), 3);
        int top = Integer.MAX_VALUE;
        C.faulted(x, "sums that wrap", x.copy(0, top, 1, 0, top), 3);
        C.faulted(x, "sums that wrap", x.copy(0, 0, 1, top, 1), 3);
        C.faulted(x, "sums that wrap", x.copy(0, 1, 1, 1, top), 3);
        C.faulted(x, "sums that wrap", x.copy(0, 1, 1, 1, Integer.MIN_VALUE), 3);
        row(x, 0, 1, 2, 3, 4, 5);
        row(x, 1, 9, 9, 9);
    }

    private static void tellHailTrace() {
        YardNames x = Checks.withSea("y00;b2300000;c1400000;s3500000");
        C.due("a barge", x.tell(0), 3);
        int trace = 1;
        C.due("trace of a barge", x.trace(), trace);
        C.due("a cutter", x.tell(1), 104);
        trace = (trace * 31 + 2) * 31 + 1;
        C.due("trace of a cutter", x.trace(), trace);
        C.due("a sloop", x.tell(2), 110);
        trace = (((trace * 31 + 3) * 31 + 2) * 31 + 1) * 31 + 1;
        C.due("trace of a sloop", x.trace(), trace);
        C.due("a barge is hailed", x.hail(0), 2);
        trace = trace * 31 + 4;
        C.due("trace of it", x.trace(), trace);
        C.due("a cutter is hailed", x.hail(1), 1);
        trace = trace * 31 + 4;
        C.due("trace of it", x.trace(), trace);
        C.due("a sloop is hailed", x.hail(2), 60);
        trace = trace * 31 + 5;
        C.due("trace of it, that has wrapped", x.trace(), trace);
        x.name(0, 3);
        C.due("by its new name", x.hail(0), 3);
        trace = x.trace();
        C.due("no ship 3", x.tell(3), YardNames.UNKNOWN);
        C.due("no ship 3", x.hail(3), YardNames.UNKNOWN);
        for (int wild : Checks.WILD) {
            C.due("tell(" + wild + ")", x.tell(wild), YardNames.UNKNOWN);
            C.due("hail(" + wild + ")", x.hail(wild), YardNames.UNKNOWN);
        }
        C.due("trace of none", x.trace(), trace);
    }

    private static void as() {
        YardNames x = Checks.withSea("y00;b2300000;c1400000;s3500000");
        for (int k = 0; k < 3; k++) {
            for (int kind = 0; kind < 3; kind++) {
                C.due("as(" + k + ", " + kind + ")", x.as(k, kind), kind <= k ? 1 : -12);
                C.due("fault() of it", x.fault(), kind <= k ? 0 : 2);
            }
            x.as(0, 2);
            C.due("kind 3", x.as(k, 3), YardNames.OUTSIDE);
            C.due("fault() of a refused one", x.fault(), 0);
            C.due("kind -1", x.as(k, -1), YardNames.OUTSIDE);
        }
        C.due("no ship 3", x.as(3, 3), YardNames.UNKNOWN);
        for (int wild : Checks.WILD) {
            C.due("as(" + wild + ")", x.as(wild, 0), YardNames.UNKNOWN);
            C.due("as kind " + wild, x.as(0, wild), YardNames.OUTSIDE);
        }
    }

    /** What names no fault leaves fault() as it is; what names one and comes to none makes it 0. */
    private static void fault() {
        YardNames x = Checks.withSea(Checks.SEA);
        for (int call = 0; call < 24; call++) {
            x.put(3, 0, 0);
            C.due("fault ahead", x.fault(), 1);
            callThatNamesNone(x, call);
            C.due("fault behind call " + call, x.fault(), 1);
        }
        for (int call = 0; call < 8; call++) {
            x.put(3, 0, 0);
            callThatComesToNone(x, call);
            C.due("fault behind fine call " + call, x.fault(), 0);
        }
    }

    private static void callThatNamesNone(YardNames x, int call) {
        switch (call) {
            case 0: x.ofShip(0, 0); break;
            case 1: x.rough(0); break;
            case 2: x.blow(0, 1); break;
            case 3: x.name(0, 1); break;
            case 4: x.days(1); break;
            case 5: x.load(0, 0, 1); break;
            case 6: x.off(0, 0, 1); break;
            case 7: x.keeps(0); break;
            case 8: x.harbour(0, 1, 0); break;
            case 9: x.stow(0, 1, 1, 0); break;
            case 10: x.cover(); break;
            case 11: x.reading(0, 0, 0); break;
            case 12: x.back(0); break;
            case 13: x.strengths(0); break;
            case 14: x.kinds(0); break;
            case 15: x.odds(0, 0, 0); break;
            case 16: x.premium(0, 0); break;
            case 17: x.lose(2); break;
            case 18: x.tell(0); break;
            case 19: x.hail(0); break;
            case 20: x.trace(); break;
            case 21: x.fault(); break;
            case 22: x.many(0); break;
            default: x.odds(9, 9, 9); break;
        }
    }

    private static void callThatComesToNone(YardNames x, int call) {
        switch (call) {
            case 0: x.sea(0, 0, 0, 41); break;
            case 1: x.voyage(0, 0, 0, 0, 0); break;
            case 2: x.names(0, 0, 0, 0, 0); break;
            case 3: x.sheet(1, 0, 5); break;
            case 4: x.put(0, 0, 121); break;
            case 5: x.cell(0, 0, 0); break;
            case 6: x.copy(0, 0, 0, 0, 3); break;
            default: x.as(0, 0); break;
        }
    }

    private static void many() {
        YardNames x = Checks.withSea(Checks.SEA);
        x.reading(0, 0, 0);
        x.reading(0, 0, 0);
        C.due("three are met", x.many(3), 3);
        x.days(7);
        int[] want = {4, 4, 7, 4, 2};
        for (int what = 0; what <= 4; what++) {
            C.due("many(" + what + ")", x.many(what), want[what]);
        }
        C.due("many(5)", x.many(5), YardNames.OUTSIDE);
        for (int wild : Checks.WILD) {
            C.due("many(" + wild + ")", x.many(wild), YardNames.OUTSIDE);
        }
    }
}
