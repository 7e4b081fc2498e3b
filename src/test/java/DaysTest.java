/** Promises 7 to 10: days, load, off, voyage. */
public final class DaysTest {
    private static final Checks C = new Checks("DaysTest");

    public static void main(String[] args) {
        days();
        whatGoesFirst();
        bearsJustSoMuch();
        loadAndOff();
        voyageAnswers();
        voyageOfFive();
        voyageFirstWrong();
        voyageFirstLoser();
        voyageRefusals();
        voyagePairs();
        C.end();
    }

    private static void days() {
        YardNames x = new YardNames();
        C.due("days(0) without a sea", x.days(0), YardNames.OUTSIDE);
        C.due("days(31) without a sea", x.days(31), YardNames.OUTSIDE);
        C.due("days(30) without a sea", x.days(30), YardNames.STATE);
        x = Checks.withSea(Checks.SEA);
        C.due("days(1)", x.days(1), 3);
        C.due("days(1)", x.days(1), 3);
        C.due("days(2)", x.days(2), 4);
        C.due("which day", x.many(2), 4);
        C.due("where", x.ofShip(0, 4), 1);
        C.due("days(30)", x.days(30), 13);
        C.due("which day", x.many(2), 34);
        C.due("where", x.ofShip(0, 4), 3);
        for (int n : new int[] {0, 31, -1, Integer.MIN_VALUE, Integer.MAX_VALUE}) {
            C.due("days(" + n + ")", x.days(n), YardNames.OUTSIDE);
        }
        C.due("which day", x.many(2), 34);
    }

    private static void whatGoesFirst() {
        YardNames x = Checks.withSea("y99;b2000111");
        int[][] left = {{0, 1, 0, 1}, {0, 0, 0, 1}, {0, 0, 0, 0}, {0, 0, 0, 0}};
        int[] lost = {1, 1, 1, 0};
        for (int d = 0; d < 4; d++) {
            C.due("lost on day " + d, x.days(1), lost[d]);
            for (int g = 0; g < 4; g++) {
                C.due("good " + g + " behind day " + d, x.ofShip(0, 10 + g), left[d][g]);
            }
            C.due("goes round", x.ofShip(0, 4), (d + 1) % 2);
        }
        C.due("met", x.many(3), 1);
    }

    private static void bearsJustSoMuch() {
        // A BARGE of 6, a CUTTER of 5, a SLOOP of 3 all bear 6, not 7.
        YardNames x = Checks.withSea("y67;b0601000;c0501000;s0301000");
        C.due("6 is borne", x.days(1), 0);
        C.due("7 is not", x.days(1), 3);
        C.due("nothing is left", x.days(30), 0);
    }

    private static void loadAndOff() {
        YardNames x = Checks.withSea("y67;b0601000;c0501000");
        C.due("load 1", x.load(0, 3, 1), 1);
        C.due("load 8", x.load(0, 3, 8), 9);
        C.due("load 1 more", x.load(0, 3, 1), YardNames.FULL);
        C.due("still 9", x.ofShip(0, 13), 9);
        C.due("off 10", x.off(0, 3, 10), YardNames.OUTSIDE);
        C.due("off 4", x.off(0, 3, 4), 5);
        C.due("off 6", x.off(0, 3, 6), YardNames.STATE);
        C.due("still 5", x.ofShip(0, 13), 5);
        C.due("off 5", x.off(0, 3, 5), 0);
        C.due("off 1", x.off(0, 3, 1), YardNames.STATE);
        C.due("load 9", x.load(1, 2, 9), 9);
        C.due("load 9 on 1", x.load(1, 0, 9), YardNames.FULL);
        C.due("the other ship has none", x.ofShip(0, 12), 0);
        C.due("load 0", x.load(0, 0, 0), YardNames.OUTSIDE);
        C.due("off 0", x.off(0, 0, 0), YardNames.OUTSIDE);
        C.due("load 10 on 1", x.load(0, 0, 10), YardNames.OUTSIDE);
        C.due("load of good 4", x.load(0, 4, 1), YardNames.OUTSIDE);
        C.due("off of good 4", x.off(0, 4, 1), YardNames.OUTSIDE);
        C.due("load of ship 2", x.load(2, 4, 0), YardNames.UNKNOWN);
        C.due("off of ship 2", x.off(2, 4, 0), YardNames.UNKNOWN);
        for (int wild : Checks.WILD) {
            C.due("load(" + wild + ")", x.load(wild, 0, 1), YardNames.UNKNOWN);
            C.due("load good " + wild, x.load(0, wild, 1), YardNames.OUTSIDE);
            C.due("load so many " + wild, x.load(0, 0, wild), YardNames.OUTSIDE);
            C.due("off(" + wild + ")", x.off(wild, 0, 1), YardNames.UNKNOWN);
            C.due("off good " + wild, x.off(0, wild, 1), YardNames.OUTSIDE);
            C.due("off so many " + wild, x.off(0, 0, wild), YardNames.OUTSIDE);
        }
    }

    private static void voyageAnswers() {
        YardNames x = Checks.withSea(Checks.SEA);
        Checks.putRow(x, 1, 2, 8, 0, 0, 3, 1, 4, 8);
        String before = Checks.seen(x);
        int[] whats = {0, 1, 2, 3, 4, 10, 11, 12, 13, 14};
        int[] wants = {16, -9, 15, 31, 0, 6, 13, 3, 0, -9};
        for (int w = 0; w < whats.length; w++) {
            C.due("voyage, " + whats[w], x.voyage(1, 2, 0, 4, whats[w]), wants[w]);
        }
        C.due("nothing is changed", Checks.seen(x).equals(before) ? 1 : 0, 1);
        C.due("no days", x.voyage(1, 2, 8, 0, 0), 0);
        C.due("worth put off is not lost", toldOnce(x, 3, 0, 4), 0);
        for (int g = 0; g < 4; g++) {
            C.due("worth loaded, good " + g, toldOnce(x, 11, 1, g), 18 + g);
            int left = g == 0 ? -100 : 16 - g;
            C.due("worth put off, good " + g, toldOnce(x, 11, 1, 4 + g), left);
        }
        C.due("0 days", toldOnce(x, 0, 0, 8), 0);
        C.due("9 days", toldOnce(x, 10, 9, 8), 2);
    }

    private static int toldOnce(YardNames x, int what, int first, int act) {
        Checks.putRow(x, 1, first, act);
        return x.voyage(1, 2, 0, 1, what);
    }

    private static void voyageOfFive() {
        YardNames x = Checks.withSea(Checks.SEA + ";s3003333");
        Checks.putRow(x, 1, 4, 3, 1, 8, 4, 7);
        C.due("lost by all five", x.voyage(1, 2, 0, 3, 0), 4);
        C.due("worth of the fifth", x.voyage(1, 2, 0, 3, 14), 26);
        C.due("who are met of five", x.voyage(1, 2, 0, 3, 2), 14);
        C.due("first to lose its name of five", x.voyage(1, 2, 0, 3, 4), 0);
    }

    private static void voyageFirstWrong() {
        YardNames x = Checks.withSea("y99;b0009000;b1000200");
        Checks.putRow(x, 1, 0, 1, 0, 0, 1, 1);
        C.due("a tenth piece", x.voyage(1, 2, 0, 3, 1), 1);
        C.due("of it", x.voyage(1, 2, 0, 3, 0), -101);
        C.due("of it, no such ship", x.voyage(1, 2, 0, 3, 14), -101);
        C.due("fault() of a wrong voyage", x.fault(), 0);
        Checks.putRow(x, 1, 1, 5, 1, 5, 1, 5);
        C.due("a third of two put off", x.voyage(1, 2, 0, 3, 1), 2);
        C.due("two of two", x.voyage(1, 2, 0, 2, 1), YardNames.NONE);
        C.due("off of what it has not", x.voyage(1, 2, 0, 3, 4), -102);
        Checks.putRow(x, 1, 1, 7);
        C.due("the first of all", x.voyage(1, 2, 0, 1, 0), -100);
        Checks.putRow(x, 1, 1, 8, 0, 0, 0, 0);
        C.due("room behind a day", x.voyage(1, 2, 0, 2, 1), YardNames.NONE);
        C.due("but once", x.voyage(1, 2, 0, 3, 1), 2);
        Checks.putRow(x, 1, 1, 7, 9, 0);
        C.due("a pair that is refused goes ahead", x.voyage(1, 2, 0, 2, 1), YardNames.UNKNOWN);
        int[] forty = new int[40];
        for (int p = 0; p < 20; p++) {
            forty[2 * p] = 1;
            forty[2 * p + 1] = p % 2 == 0 ? 2 : 6;
        }
        Checks.putRow(x, 1, forty);
        C.due("twenty pairs", x.voyage(1, 2, 0, 20, 1), YardNames.NONE);
        x.put(1, 39, 7);
        C.due("the last one wrong", x.voyage(1, 2, 0, 20, 1), 19);
    }

    private static void voyageFirstLoser() {
        YardNames x = Checks.withSea("y19;b0501000;b1000200;b2000020");
        Checks.putRow(x, 1, 1, 8, 1, 8);
        C.due("two on one day, the least", x.voyage(1, 2, 0, 1, 4), 1);
        C.due("stays the first", x.voyage(1, 2, 0, 2, 4), 1);
        Checks.putRow(x, 1, 1, 5, 1, 5, 1, 0, 1, 8);
        C.due("a piece of another good is none of its name", x.voyage(1, 2, 0, 4, 4), 2);
        C.due("none of the first ship", x.voyage(1, 2, 0, 3, 4), YardNames.NONE);
    }

    private static void voyageRefusals() {
        YardNames x = new YardNames();
        x.sheet(1, 2, 4);
        C.faulted(x, "nothing, ahead of no sea", x.voyage(0, 0, 0, 0, 0), 1);
        C.faulted(x, "cast, ahead of no sea", x.voyage(1, 1, 0, 0, 0), 2);
        C.faulted(x, "index, ahead of no sea", x.voyage(1, 2, 0, 3, 0), 3);
        C.due("no sea", x.voyage(1, 2, 0, 2, 0), YardNames.STATE);
        C.due("no sea is no fault", x.fault(), 0);
        C.due("sheet 4", x.voyage(4, 3, 0, 21, 5), YardNames.UNKNOWN);
        C.due("lane 3", x.voyage(0, 3, 0, 0, 0), YardNames.OUTSIDE);
        C.due("n -1", x.voyage(0, 0, 0, -1, 0), YardNames.OUTSIDE);
        C.due("n 21", x.voyage(0, 0, 0, 21, 0), YardNames.OUTSIDE);
        C.due("n that wraps", x.voyage(1, 2, 0, Integer.MIN_VALUE, 0), YardNames.OUTSIDE);
        for (int what : new int[] {-1, 5, 9, 15, Integer.MIN_VALUE, Integer.MAX_VALUE}) {
            C.due("what " + what, x.voyage(0, 0, 0, 0, what), YardNames.OUTSIDE);
        }
        x = Checks.withSea(Checks.SEA);
        Checks.putRow(x, 1, 0, 0, 0);
        C.faulted(x, "half a pair", x.voyage(1, 2, 0, 2, 0), 3);
        C.faulted(x, "from 2 on", x.voyage(1, 2, 2, 1, 0), 3);
        C.faulted(x, "none from 4 on", x.voyage(1, 2, 4, 0, 0), 3);
        C.faulted(x, "none from -1 on", x.voyage(1, 2, -1, 0, 0), 3);
        C.faulted(x, "from the edge of int on", x.voyage(1, 2, Integer.MAX_VALUE, 20, 0), 3);
        C.due("none from 3 on", x.voyage(1, 2, 3, 0, 0), 0);
        C.due("from 1 on", x.voyage(1, 2, 1, 1, 10), 15);
    }

    private static void voyagePairs() {
        YardNames x = Checks.withSea(Checks.SEA);
        C.due("ship 4", toldOnce(x, 0, 4, 0), YardNames.UNKNOWN);
        C.due("ship 4 puts off", toldOnce(x, 0, 4, 7), YardNames.UNKNOWN);
        C.due("ship -1", toldOnce(x, 0, -1, 3), YardNames.UNKNOWN);
        C.due("ship 4, act 9", toldOnce(x, 0, 4, 9), YardNames.OUTSIDE);
        C.due("act -1", toldOnce(x, 0, 0, -1), YardNames.OUTSIDE);
        C.due("10 days", toldOnce(x, 0, 10, 8), YardNames.OUTSIDE);
        C.due("-1 days", toldOnce(x, 0, -1, 8), YardNames.OUTSIDE);
        C.due("fault() of them", x.fault(), 0);
        Checks.putRow(x, 1, 9, 0, 0, 9);
        C.due("unknown in the first pair", x.voyage(1, 2, 0, 2, 0), YardNames.UNKNOWN);
        Checks.putRow(x, 1, 0, 9, 9, 0);
        C.due("outside in the first pair", x.voyage(1, 2, 0, 2, 0), YardNames.OUTSIDE);
    }
}
