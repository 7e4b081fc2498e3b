/** Promises 15 to 21: reading, back, strengths, kinds, names, odds, premium. */
public final class LostTest {
    private static final Checks C = new Checks("LostTest");

    public static void main(String[] args) {
        readingAndBack();
        strengthsAndKinds();
        readingsOfOthers();
        names();
        namesRefusals();
        odds();
        premium();
        C.end();
    }

    private static void readingAndBack() {
        YardNames x = new YardNames();
        C.due("back(0) of none", x.back(0), 0);
        C.due("back(1) of none", x.back(1), YardNames.OUTSIDE);
        C.due("no ship", x.reading(0, 0, 2), YardNames.UNKNOWN);
        x = Checks.withSea(Checks.SEA);
        C.due("no ship 4", x.reading(4, 0, 2), YardNames.UNKNOWN);
        C.due("no port 4", x.reading(0, 4, 2), YardNames.UNKNOWN);
        C.due("lost 2", x.reading(0, 0, 2), YardNames.OUTSIDE);
        C.due("lost -1", x.reading(0, 0, -1), YardNames.OUTSIDE);
        for (int r = 0; r < 8; r++) {
            C.due("reading " + r, x.reading(r % 4, r % 4, r % 2), r);
        }
        C.due("a ninth", x.reading(0, 0, 0), YardNames.FULL);
        C.due("a ninth, outside", x.reading(0, 0, 2), YardNames.OUTSIDE);
        C.due("8 of them", x.many(4), 8);
        C.due("back(9)", x.back(9), YardNames.OUTSIDE);
        C.due("back(-1)", x.back(-1), YardNames.OUTSIDE);
        C.due("back(0)", x.back(0), 8);
        C.due("back(3)", x.back(3), 5);
        C.due("5 of them", x.many(4), 5);
        C.due("the next number", x.reading(0, 0, 0), 5);
        C.due("back(6)", x.back(6), 0);
        C.due("none", x.many(4), 0);
        for (int wild : Checks.WILD) {
            C.due("reading(" + wild + ")", x.reading(wild, 0, 0), YardNames.UNKNOWN);
            C.due("reading port " + wild, x.reading(0, wild, 0), YardNames.UNKNOWN);
            C.due("reading lost " + wild, x.reading(0, 0, wild), YardNames.OUTSIDE);
            C.due("back(" + wild + ")", x.back(wild), YardNames.OUTSIDE);
            C.due("strengths(" + wild + ")", x.strengths(wild), YardNames.UNKNOWN);
            C.due("kinds(" + wild + ")", x.kinds(wild), YardNames.UNKNOWN);
        }
    }

    private static void strengthsAndKinds() {
        // Ways of 4 and 9; ship 0, 1, 2 are a BARGE, a CUTTER, a SLOOP, all of 4.
        YardNames x = Checks.withSea("y49;b0400000;c0400000;s0400000");
        C.due("no readings: all strengths", x.strengths(0), 1023);
        C.due("no readings: all kinds", x.kinds(0), 7);
        x.reading(0, 1, 1);
        C.due("a barge below 9", x.strengths(0), 511);
        C.due("4, 5 and 8 are all below 9", x.kinds(0), 7);
        x.reading(0, 0, 0);
        C.due("and from 4 on", x.strengths(0), 496);
        x.back(2);
        x.reading(1, 1, 1);
        C.due("a cutter bears 1 more", x.strengths(1), 255);
        x.reading(1, 0, 0);
        C.due("from 3 on", x.strengths(1), 248);
        x.back(2);
        x.reading(2, 1, 1);
        C.due("a sloop bears twice as much", x.strengths(2), 31);
        x.reading(2, 0, 0);
        C.due("from 2 on", x.strengths(2), 28);
        C.due("kinds", x.kinds(2), 7);
        x.blow(1, 8);
        C.due("as rough as it is now", x.strengths(2), 12);
        C.due("a sloop bears 8", x.kinds(2), 3);
        x.blow(1, 5);
        C.due("a cutter bears 5", x.kinds(2), 1);
        C.due("strengths of a sloop", x.strengths(2), 4);
        x.reading(2, 0, 1);
        C.due("two that are at odds", x.strengths(2), 0);
        C.due("kinds of none", x.kinds(2), 0);
        C.due("no ship 3", x.strengths(3), YardNames.UNKNOWN);
        C.due("no ship 3", x.kinds(3), YardNames.UNKNOWN);
    }

    private static void readingsOfOthers() {
        YardNames x = Checks.withSea("y49;b0400000;c0400000");
        x.reading(0, 1, 1);
        C.due("a true one of another leaves all", x.strengths(1), 1023);
        x.reading(0, 1, 0);
        C.due("a wrong one of another leaves none", x.strengths(1), 0);
        C.due("nor a kind", x.kinds(1), 0);
        x.back(1);
        C.due("taken back", x.kinds(1), 7);
        C.due("carrying is not asked for", x.strengths(0), 511);
    }

    private static int namesBy(YardNames x, int n, int... lost) {
        Checks.putRow(x, 2, lost);
        return x.names(2, 2, 0, 0, n);
    }

    private static void names() {
        YardNames x = Checks.withSea("y90;b1001020");
        C.due("nothing in no day", namesBy(x, 0, 0, 0, 0, 0), 15);
        C.due("nothing in a day", namesBy(x, 1, 0, 0, 0, 0), 0);
        C.due("a piece of good 0", namesBy(x, 1, 1, 0, 0, 0), 11);
        C.due("a piece of good 2", namesBy(x, 1, 0, 0, 1, 0), 4);
        C.due("two in three days", namesBy(x, 3, 1, 0, 1, 0), 11);
        C.due("two of good 2", namesBy(x, 3, 0, 0, 2, 0), 4);
        C.due("all of it", namesBy(x, 30, 1, 0, 2, 0), 15);
        C.due("more than it has", namesBy(x, 30, 2, 0, 2, 0), 0);
        C.due("below 0", namesBy(x, 30, -1, 0, 2, 0), 0);
        x.reading(0, 0, 0);
        C.due("readings tell nothing of a name", namesBy(x, 1, 0, 0, 1, 0), 4);
        C.due("its name stays", x.ofShip(0, 1), 1);
        x.days(1);
        C.due("from how all is now", namesBy(x, 1, 0, 0, 0, 0), 15);
    }

    private static void namesRefusals() {
        YardNames x = Checks.withSea(Checks.SEA);
        Checks.putRow(x, 2, 0, 0, 0, 0, 0);
        C.due("from 1 on", x.names(2, 2, 1, 0, 0), 15);
        C.faulted(x, "from 2 on", x.names(2, 2, 2, 0, 0), 3);
        C.faulted(x, "from -1 on", x.names(2, 2, -1, 0, 0), 3);
        C.faulted(x, "from the edge of int on", x.names(2, 2, Integer.MAX_VALUE, 0, 0), 3);
        C.faulted(x, "cast", x.names(2, 0, 9, 0, 0), 2);
        C.faulted(x, "nothing", x.names(3, 0, 9, 0, 0), 1);
        C.due("sheet 4", x.names(4, 3, 0, 0, 31), YardNames.UNKNOWN);
        C.due("fault() of it", x.fault(), 0);
        C.due("ship 4", x.names(3, 3, 0, 4, 31), YardNames.UNKNOWN);
        C.due("lane 3", x.names(3, 3, 0, 0, 0), YardNames.OUTSIDE);
        C.due("n 31", x.names(3, 0, 0, 0, 31), YardNames.OUTSIDE);
        C.due("n -1", x.names(3, 0, 0, 0, -1), YardNames.OUTSIDE);
        C.due("no sea", new YardNames().names(0, 0, 0, 0, 0), YardNames.UNKNOWN);
        for (int wild : Checks.WILD) {
            C.due("names sheet " + wild, x.names(wild, 2, 0, 0, 0), YardNames.UNKNOWN);
            C.due("names lane " + wild, x.names(2, wild, 0, 0, 0), YardNames.OUTSIDE);
            C.due("names i " + wild, x.names(2, 2, wild, 0, 0), -13);
            C.due("names ship " + wild, x.names(2, 2, 0, wild, 0), YardNames.UNKNOWN);
            C.due("names n " + wild, x.names(2, 2, 0, 0, wild), YardNames.OUTSIDE);
        }
    }

    private static void share(String what, long upper, long lower, int wantUpper, int wantLower) {
        C.due(what + ", upper", upper, wantUpper);
        C.due(what + ", lower", lower, wantLower);
    }

    private static void odds() {
        YardNames x = Checks.withSea("y199919;b2101011;b2100101;b0900009;b1000000");
        share("its name", x.odds(0, 2, 0), x.odds(0, 2, 1), 2, 3);
        share("not good 0", x.odds(0, 0, 0), x.odds(0, 0, 1), 0, 1);
        share("not good 3", x.odds(0, 3, 0), x.odds(0, 3, 1), 0, 1);
        share("the least it has", x.odds(1, 1, 0), x.odds(1, 1, 1), 2, 3);
        share("not its name", x.odds(1, 2, 0), x.odds(1, 2, 1), 0, 1);
        share("all is borne", x.odds(2, 3, 0), x.odds(2, 3, 1), 0, 1);
        share("nothing to lose", x.odds(3, 1, 0), x.odds(3, 1, 1), 0, 1);
        x.blow(1, 0);
        share("3 of 6", x.odds(0, 2, 0), x.odds(0, 2, 1), 1, 2);
        x.blow(2, 0);
        x.blow(3, 0);
        share("1 of 6", x.odds(0, 2, 0), x.odds(0, 2, 1), 1, 6);
        for (int port = 0; port < 6; port++) {
            x.blow(port, 9);
        }
        share("6 of 6", x.odds(0, 2, 0), x.odds(0, 2, 1), 1, 1);
        C.due("good 4", x.odds(0, 4, 0), YardNames.LOST);
        C.due("which 2", x.odds(0, 0, 2), YardNames.LOST);
        C.due("no ship 4", x.odds(4, 0, 0), YardNames.LOST);
        for (int wild : Checks.WILD) {
            C.due("odds(" + wild + ")", x.odds(wild, 0, 0), YardNames.LOST);
            C.due("odds good " + wild, x.odds(0, wild, 0), YardNames.LOST);
            C.due("odds which " + wild, x.odds(0, 0, wild), YardNames.LOST);
        }
    }

    private static void premium() {
        YardNames x = Checks.withSea("y19991;b3100001;b3101000;b0900009;b1000000;s2101020");
        share("3 of 5, worth 4", x.premium(0, 0), x.premium(0, 1), 12, 5);
        share("3 of 5, worth 1", x.premium(1, 0), x.premium(1, 1), 3, 5);
        share("all is borne", x.premium(2, 0), x.premium(2, 1), 0, 1);
        share("nothing to lose", x.premium(3, 0), x.premium(3, 1), 0, 1);
        share("worth 3", x.premium(4, 0), x.premium(4, 1), 9, 5);
        x.blow(0, 9);
        x.blow(4, 9);
        share("5 of 5, worth 4", x.premium(0, 0), x.premium(0, 1), 4, 1);
        x = Checks.withSea("y190919;b3000001;b1000100");
        share("5 of 6, worth 4", x.premium(0, 0), x.premium(0, 1), 10, 3);
        x.blow(0, 0);
        share("4 of 6, worth 4", x.premium(0, 0), x.premium(0, 1), 8, 3);
        x.blow(1, 0);
        share("3 of 6, worth 4", x.premium(0, 0), x.premium(0, 1), 2, 1);
        share("3 of 6, worth 2", x.premium(1, 0), x.premium(1, 1), 1, 1);
        C.due("which 2", x.premium(0, 2), YardNames.LOST);
        C.due("no ship 2", x.premium(2, 0), YardNames.LOST);
        for (int wild : Checks.WILD) {
            C.due("premium(" + wild + ")", x.premium(wild, 0), YardNames.LOST);
            C.due("premium which " + wild, x.premium(0, wild), YardNames.LOST);
        }
    }
}
