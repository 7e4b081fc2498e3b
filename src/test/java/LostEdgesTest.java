/** The boundary cases of promises 15 to 21: readings, and what they and losses tell. */
public final class LostEdgesTest {
    private static final Checks C = new Checks("LostEdgesTest");
    private static final int UNKNOWN = YardNames.UNKNOWN, OUTSIDE = YardNames.OUTSIDE;
    private static final int FULL = YardNames.FULL;
    private static final int NULL = 1, CAST = 2, INDEX = 3;
    private static final int ALL_STRENGTHS = 1023, ALL_KINDS = 7, ALL_NAMES = 15;

    /** A BARGE, a CUTTER, a SLOOP; a way of each roughness that is looked at is blown. */
    private static final String THREE = "y49;b0401000;c0401000;s0401000";

    public static void main(String[] args) {
        C.runPromises(LostEdgesTest.class);
    }

    private static Yard yard() {
        return new Yard(C);
    }

    private static Yard sea(String text) {
        return yard().sea(text);
    }

    private static Yard withReadings(int n) {
        Yard x = sea(THREE);
        for (int r = 0; r < n; r++) {
            x.due("reading(" + r % 3 + ", " + (r + 1) % 2 + ", " + (r + 1) % 2 + ")", r);
        }
        return x;
    }

    // ---- 15 reading

    static void promise15_shipsThatThereAre() {
        sea(THREE).due("reading(2, 0, 0)", 0).refused("reading(3, 0, 0)", UNKNOWN)
            .refused("reading(-1, 0, 0)", UNKNOWN).refused("reading(MIN, 0, 0)", UNKNOWN)
            .refused("reading(MAX, 0, 0)", UNKNOWN).due("many(4)", 1);
        yard().refused("reading(0, 0, 0)", UNKNOWN).due("many(4)", 0);
    }

    static void promise15_portsThatThereAre() {
        sea(THREE).due("reading(0, 1, 0)", 0).refused("reading(0, 2, 0)", UNKNOWN)
            .refused("reading(0, -1, 0)", UNKNOWN).refused("reading(0, MIN, 0)", UNKNOWN)
            .refused("reading(0, MAX, 0)", UNKNOWN).due("many(4)", 1);
        sea("y000000;b0000000").due("reading(0, 5, 0)", 0).refused("reading(0, 6, 0)", UNKNOWN);
    }

    static void promise15_lostIs0Or1() {
        sea(THREE).due("reading(0, 0, 0)", 0).due("reading(0, 0, 1)", 1)
            .refused("reading(0, 0, 2)", OUTSIDE).refused("reading(0, 0, -1)", OUTSIDE)
            .refused("reading(0, 0, MIN)", OUTSIDE).refused("reading(0, 0, MAX)", OUTSIDE)
            .due("many(4)", 2);
    }

    static void promise15_eightAtMost() {
        withReadings(7).due("many(4)", 7).due("reading(0, 0, 0)", 7).due("many(4)", 8)
            .refused("reading(0, 0, 0)", FULL).refused("reading(2, 1, 1)", FULL)
            .due("many(4)", 8);
    }

    static void promise15_orderOfRefusals() {
        withReadings(8).refused("reading(3, 2, 2)", UNKNOWN).refused("reading(0, 2, 2)", UNKNOWN)
            .refused("reading(3, 0, 0)", UNKNOWN).refused("reading(0, 0, 2)", OUTSIDE)
            .refused("reading(0, 0, 1)", FULL);
    }

    static void promise15_numberedByHowManyThereAre() {
        withReadings(8).due("back(1)", 7).due("reading(0, 0, 0)", 7)
            .refused("reading(0, 0, 0)", FULL).due("back(8)", 0).due("reading(0, 0, 0)", 0)
            .due("reading(0, 0, 0)", 1);
    }

    static void promise15_namesNoFault() {
        sea(THREE).faulted("put(3, 0, 0)", NULL).due("reading(0, 0, 0)", 0).due("fault()", 1);
    }

    static void promise15_aReadingIsTakenAsItIsTold() {
        // It may be wrong of the ship as it is, and the ship may carry nothing by now.
        sea("y09;b0400000").due("reading(0, 0, 1)", 0).due("strengths(0)", 0).due("back(1)", 0)
            .due("reading(0, 1, 1)", 0).due("strengths(0)", 511);
    }

    // ---- 16 back

    static void promise16_from0ToAsManyAsThereAre() {
        withReadings(8).same("back(0)", 8).refused("back(9)", OUTSIDE)
            .refused("back(-1)", OUTSIDE).refused("back(MIN)", OUTSIDE)
            .refused("back(MAX)", OUTSIDE).due("back(8)", 0).due("many(4)", 0);
        withReadings(3).refused("back(4)", OUTSIDE).due("back(2)", 1).due("many(4)", 1)
            .refused("back(2)", OUTSIDE).due("back(1)", 0);
    }

    static void promise16_ofNone() {
        sea(THREE).same("back(0)", 0).refused("back(1)", OUTSIDE);
        yard().same("back(0)", 0).refused("back(1)", OUTSIDE).refused("back(-1)", OUTSIDE);
    }

    static void promise16_theLastOnesGo() {
        sea(THREE).due("reading(0, 1, 1)", 0).due("reading(0, 0, 0)", 1)
            .due("reading(0, 0, 1)", 2).due("strengths(0)", 0).due("back(1)", 2)
            .due("strengths(0)", 496).due("back(1)", 1).due("strengths(0)", 511)
            .due("back(1)", 0).due("strengths(0)", ALL_STRENGTHS);
    }

    static void promise16_namesNoFault() {
        withReadings(2).faulted("put(3, 0, 0)", NULL).due("back(1)", 1).due("fault()", 1);
    }

    // ---- 17 strengths

    static void promise17_shipsThatThereAre() {
        withReadings(2).same("strengths(2)", ALL_STRENGTHS).refused("strengths(3)", UNKNOWN)
            .refused("strengths(-1)", UNKNOWN).refused("strengths(MIN)", UNKNOWN)
            .refused("strengths(MAX)", UNKNOWN);
        yard().refused("strengths(0)", UNKNOWN);
    }

    static void promise17_allWithoutReadings() {
        for (int k = 0; k < 3; k++) {
            sea(THREE).same("strengths(" + k + ")", ALL_STRENGTHS);
        }
    }

    /** STRENGTHS by one reading of a ship on a way of some roughness: lost, or not. */
    private static void strengths(int ship, int rough, int ifLost) {
        sea(THREE).due("blow(0, " + rough + ")", 4).due("reading(" + ship + ", 0, 1)", 0)
            .same("strengths(" + ship + ")", ifLost).due("back(1)", 0)
            .due("reading(" + ship + ", 0, 0)", 0)
            .same("strengths(" + ship + ")", ALL_STRENGTHS - ifLost);
    }

    static void promise17_ofABarge() {
        strengths(0, 0, 0);
        strengths(0, 1, 1);
        strengths(0, 8, 255);
        strengths(0, 9, 511);
    }

    static void promise17_ofACutter() {
        strengths(1, 0, 0);
        strengths(1, 1, 0);
        strengths(1, 2, 1);
        strengths(1, 8, 127);
        strengths(1, 9, 255);
    }

    static void promise17_ofASloop() {
        strengths(2, 0, 0);
        strengths(2, 1, 1);
        strengths(2, 2, 1);
        strengths(2, 3, 3);
        strengths(2, 8, 15);
        strengths(2, 9, 31);
    }

    static void promise17_inPlaceOfWhatItIs() {
        for (int strength = 0; strength < 10; strength++) {
            sea("y37;b0" + strength + "00000").due("reading(0, 1, 1)", 0)
                .due("reading(0, 0, 0)", 1).same("strengths(0)", 8 + 16 + 32 + 64);
        }
    }

    static void promise17_readingsThatAreAtOdds() {
        sea(THREE).due("reading(0, 0, 1)", 0).same("strengths(0)", 15)
            .due("reading(0, 0, 0)", 1).same("strengths(0)", 0).same("strengths(1)", 0);
    }

    static void promise17_allReadingsOfOthersToo() {
        // The CUTTER of 4 bears 5: that it lost on 9 is so, that it lost on 4 is not.
        sea(THREE).due("reading(1, 1, 1)", 0).same("strengths(0)", ALL_STRENGTHS)
            .due("reading(1, 0, 1)", 1).same("strengths(0)", 0).same("strengths(1)", 7)
            .same("strengths(2)", 0).due("back(1)", 1).same("strengths(2)", ALL_STRENGTHS);
    }

    static void promise17_allEightReadingsCount() {
        Yard x = sea(THREE);
        for (int r = 0; r < 7; r++) {
            x.due("reading(0, 1, 1)", r);
        }
        x.same("strengths(0)", 511).due("reading(0, 0, 0)", 7).same("strengths(0)", 496)
            .due("back(8)", 0).due("reading(0, 0, 0)", 0);
        for (int r = 1; r < 8; r++) {
            x.due("reading(0, 1, 1)", r);
        }
        x.same("strengths(0)", 496);
    }

    // ---- 18 kinds

    static void promise18_shipsThatThereAre() {
        withReadings(2).same("kinds(2)", ALL_KINDS).refused("kinds(3)", UNKNOWN)
            .refused("kinds(-1)", UNKNOWN).refused("kinds(MIN)", UNKNOWN)
            .refused("kinds(MAX)", UNKNOWN);
        yard().refused("kinds(0)", UNKNOWN);
    }

    static void promise18_allWithoutReadings() {
        for (int k = 0; k < 3; k++) {
            sea(THREE).same("kinds(" + k + ")", ALL_KINDS);
        }
    }

    /** KINDS of a ship of a strength by one reading on a way of some roughness: lost, or not. */
    private static void kinds(int strength, int rough, int ifLost) {
        for (String kind : new String[] {"b", "c", "s"}) {
            sea("y" + rough + "0;" + kind + "0" + strength + "00000").due("reading(0, 0, 1)", 0)
                .same("kinds(0)", ifLost).due("back(1)", 0).due("reading(0, 0, 0)", 0)
                .same("kinds(0)", ALL_KINDS - ifLost);
        }
    }

    static void promise18_ofStrength0() {
        // They bear 0, 1, 0.
        kinds(0, 0, 0);
        kinds(0, 1, 5);
        kinds(0, 2, 7);
    }

    static void promise18_ofStrength1() {
        // They bear 1, 2, 2.
        kinds(1, 1, 0);
        kinds(1, 2, 1);
        kinds(1, 3, 7);
    }

    static void promise18_ofStrength4() {
        // They bear 4, 5, 8.
        kinds(4, 4, 0);
        kinds(4, 5, 1);
        kinds(4, 6, 3);
        kinds(4, 8, 3);
        kinds(4, 9, 7);
    }

    static void promise18_ofStrength9() {
        // All ways are borne by it, whatever it is.
        kinds(9, 9, 0);
        kinds(8, 9, 1);
    }

    static void promise18_readingsThatAreAtOdds() {
        sea(THREE).due("reading(2, 1, 1)", 0).due("reading(2, 1, 0)", 1).same("kinds(2)", 0)
            .same("kinds(0)", 0);
    }

    static void promise18_allReadingsOfOthersToo() {
        sea(THREE).due("reading(0, 0, 1)", 0).same("kinds(1)", 0).due("back(1)", 0)
            .due("reading(0, 0, 0)", 0).same("kinds(1)", ALL_KINDS);
    }

    // ---- 19 names

    private static Yard losses(String text, int... row) {
        return sea(text).row(1, 2, row);
    }

    static void promise19_sheets0To3() {
        for (int k = 0; k < 4; k++) {
            sea(THREE).row(k, 2, 0, 0, 0, 0).same("names(" + k + ", 2, 0, 0, 0)", ALL_NAMES);
        }
        for (String k : new String[] {"-1", "4", "MIN", "MAX"}) {
            losses(THREE, 0, 0, 0, 0).refused("names(" + k + ", 2, 0, 0, 0)", UNKNOWN);
        }
    }

    static void promise19_shipsThatThereAre() {
        Yard x = losses(THREE, 0, 0, 0, 0);
        x.same("names(1, 2, 0, 2, 0)", ALL_NAMES);
        for (String k : new String[] {"-1", "3", "MIN", "MAX"}) {
            x.refused("names(1, 2, 0, " + k + ", 0)", UNKNOWN);
        }
        yard().row(1, 2, 0, 0, 0, 0).refused("names(1, 2, 0, 0, 0)", UNKNOWN);
        yard().refused("names(1, 2, 0, 0, 0)", UNKNOWN);
    }

    static void promise19_lanes0To2() {
        for (int lane = 0; lane < 3; lane++) {
            sea(THREE).row(1, lane, 0, 0, 0, 0)
                .same("names(1, " + lane + ", 0, 0, 0)", ALL_NAMES);
        }
        for (String lane : new String[] {"-1", "3", "MIN", "MAX"}) {
            losses(THREE, 0, 0, 0, 0).refused("names(1, " + lane + ", 0, 0, 0)", OUTSIDE);
        }
    }

    static void promise19_from0To30Days() {
        // A rough day in two, from port 0 on: 15 in 30 days, 14 in 28 days.
        Yard x = losses("y90;b0009999", 9, 5, 0, 0);
        x.same("names(1, 2, 0, 0, 28)", 1).same("names(1, 2, 0, 0, 29)", 0)
            .due("put(1, 1, 6)", 1).same("names(1, 2, 0, 0, 29)", 1)
            .same("names(1, 2, 0, 0, 30)", 1).refused("names(1, 2, 0, 0, 31)", OUTSIDE)
            .refused("names(1, 2, 0, 0, -1)", OUTSIDE).refused("names(1, 2, 0, 0, MIN)", OUTSIDE)
            .refused("names(1, 2, 0, 0, MAX)", OUTSIDE);
        losses("y99;b0009999", 0, 0, 0, 0).same("names(1, 2, 0, 0, 0)", ALL_NAMES)
            .same("names(1, 2, 0, 0, 1)", 0);
    }

    static void promise19_unknownGoesAheadOfOutside() {
        losses(THREE, 0).refused("names(4, 3, 0, 0, 31)", UNKNOWN)
            .refused("names(1, 3, 0, 3, 31)", UNKNOWN).refused("names(1, 3, 0, 0, 31)", OUTSIDE);
    }

    static void promise19_refusalsGoAheadOfFaults() {
        losses(THREE, 0).refused("names(1, 0, 0, 3, 0)", UNKNOWN)
            .refused("names(2, 0, 0, 3, 0)", UNKNOWN).refused("names(1, 0, 0, 0, 31)", OUTSIDE)
            .refused("names(2, 0, 9, 0, -1)", OUTSIDE).faulted("names(1, 0, 0, 0, 30)", CAST);
    }

    static void promise19_castGoesAheadOfIndex() {
        losses(THREE, 0, 0, 0).faulted("names(1, 1, 0, 0, 0)", CAST)
            .faulted("names(1, 0, -1, 0, 0)", CAST).faulted("names(1, 2, 0, 0, 0)", INDEX);
    }

    static void promise19_nothingIsNoCast() {
        for (int lane = 0; lane < 3; lane++) {
            losses(THREE, 0, 0, 0, 0).faulted("names(2, " + lane + ", 0, 0, 0)", NULL)
                .faulted("names(2, " + lane + ", -1, 0, 0)", NULL).due("lose(1)", 1)
                .faulted("names(1, " + lane + ", 0, 0, 0)", NULL);
        }
    }

    static void promise19_fourCells() {
        losses(THREE, 0, 0, 0).faulted("names(1, 2, 0, 0, 0)", INDEX);
        losses(THREE, 0, 0, 0, 0).same("names(1, 2, 0, 0, 0)", ALL_NAMES)
            .faulted("names(1, 2, 1, 0, 0)", INDEX).faulted("names(1, 2, -1, 0, 0)", INDEX)
            .faulted("names(1, 2, 4, 0, 0)", INDEX).faulted("names(1, 2, 5, 0, 0)", INDEX)
            .faulted("names(1, 2, MIN, 0, 0)", INDEX).faulted("names(1, 2, MAX, 0, 0)", INDEX);
        losses(THREE, 7, 0, 0, 0, 0, 7).same("names(1, 2, 1, 0, 0)", ALL_NAMES)
            .same("names(1, 2, 0, 0, 0)", 0).same("names(1, 2, 2, 0, 0)", 0)
            .faulted("names(1, 2, 3, 0, 0)", INDEX);
        losses(THREE).faulted("names(1, 2, 0, 0, 0)", INDEX);
    }

    static void promise19_faultIs0BehindARefusal() {
        losses(THREE, 0, 0, 0, 0).faulted("names(1, 2, 1, 0, 0)", INDEX).due("fault()", 3)
            .due("names(1, 2, 0, 3, 0)", UNKNOWN).due("fault()", 0)
            .faulted("names(1, 2, 1, 0, 0)", INDEX).due("names(1, 2, 0, 0, 1)", ALL_NAMES)
            .due("fault()", 0);
    }

    static void promise19_whatWouldHaveBeenLost() {
        // A piece of each: of any name that piece goes first, then the least ones.
        losses("y99;b0001111", 1, 0, 0, 0).same("names(1, 2, 0, 0, 1)", 1);
        losses("y99;b0001111", 0, 0, 0, 1).same("names(1, 2, 0, 0, 1)", 8);
        losses("y99;b0001111", 1, 1, 0, 0).same("names(1, 2, 0, 0, 2)", 3);
        losses("y99;b0001111", 1, 0, 0, 1).same("names(1, 2, 0, 0, 2)", 8);
        losses("y99;b0001111", 1, 1, 1, 0).same("names(1, 2, 0, 0, 3)", 7);
        losses("y99;b0001111", 1, 1, 1, 1).same("names(1, 2, 0, 0, 4)", 15)
            .same("names(1, 2, 0, 0, 5)", 15).same("names(1, 2, 0, 0, 3)", 0);
    }

    static void promise19_namesOfWhichItCarriesNone() {
        losses("y99;b0000011", 0, 0, 1, 0).same("names(1, 2, 0, 0, 1)", 7);
        losses("y99;b0000000", 0, 0, 0, 0).same("names(1, 2, 0, 0, 30)", 15);
    }

    static void promise19_numbersThatCannotBe() {
        losses("y99;b0001111", -1, 0, 0, 1).same("names(1, 2, 0, 0, 1)", 0);
        losses("y99;b0001111", 2, 0, 0, 0).same("names(1, 2, 0, 0, 2)", 0);
        losses("y99;b0001111", 1, 1, 1, 10).same("names(1, 2, 0, 0, 30)", 0);
        losses("y99;b0001111", Integer.MIN_VALUE, Integer.MAX_VALUE, 1, 1)
            .same("names(1, 2, 0, 0, 30)", 0);
        // 257 is cut to 1 in a row of bytes, not in one of shorts.
        sea("y99;b0001111").row(1, 0, 257, 0, 0, 0).same("names(1, 0, 0, 0, 1)", 1)
            .row(1, 1, 257, 0, 0, 0).same("names(1, 1, 0, 0, 1)", 0);
    }

    static void promise19_fromHowAllIsNow() {
        losses("y90;b0001111", 1, 0, 0, 0).same("names(1, 2, 0, 0, 1)", 1).due("days(1)", 1)
            .same("names(1, 2, 0, 0, 1)", 0).same("names(1, 2, 0, 0, 2)", 0)
            .due("load(0, 0, 1)", 1).same("names(1, 2, 0, 0, 2)", 1)
            .due("ofShip(0, 1)", 0);
    }

    static void promise19_justAsRoughIsBorne() {
        losses("y66;b0601000;c0501000;s0301000;b0501000", 1, 0, 0, 0)
            .same("names(1, 2, 0, 0, 1)", 0).same("names(1, 2, 0, 1, 1)", 0)
            .same("names(1, 2, 0, 2, 1)", 0).same("names(1, 2, 0, 3, 1)", 15);
    }

    static void promise19_readingsTellNothingOfANameThatIsAskedFor() {
        losses("y99;b0001111", 0, 0, 0, 1).due("reading(0, 0, 1)", 0)
            .same("names(1, 2, 0, 0, 1)", 8);
    }

    // ---- 20 odds

    private static Yard share(Yard x, String call, int upper, int lower) {
        return x.same(call + ", 0)", upper).same(call + ", 1)", lower);
    }

    static void promise20_shipsThatThereAre() {
        sea(THREE).same("odds(2, 0, 0)", 1).refused("odds(3, 0, 0)", UNKNOWN)
            .refused("odds(-1, 0, 0)", UNKNOWN).refused("odds(MIN, 0, 0)", UNKNOWN)
            .refused("odds(MAX, 0, 0)", UNKNOWN);
        yard().refused("odds(0, 0, 0)", UNKNOWN);
    }

    static void promise20_goods0To3() {
        sea("y99;b0001111").same("odds(0, 0, 0)", 1).same("odds(0, 3, 0)", 0)
            .refused("odds(0, 4, 0)", OUTSIDE).refused("odds(0, -1, 0)", OUTSIDE)
            .refused("odds(0, MIN, 0)", OUTSIDE).refused("odds(0, MAX, 0)", OUTSIDE);
    }

    static void promise20_whichIs0Or1() {
        sea("y90;b0001111").same("odds(0, 0, 0)", 1).same("odds(0, 0, 1)", 2)
            .refused("odds(0, 0, 2)", OUTSIDE).refused("odds(0, 0, -1)", OUTSIDE)
            .refused("odds(0, 0, MIN)", OUTSIDE).refused("odds(0, 0, MAX)", OUTSIDE);
    }

    static void promise20_aRefusalIsNoFault() {
        sea(THREE).faulted("put(3, 0, 0)", NULL).due("odds(3, 4, 2)", YardNames.LOST)
            .due("fault()", 1).due("odds(0, 0, 0)", 1).due("fault()", 1);
    }

    static void promise20_noneAndAllOfThePorts() {
        share(sea("y00;b0001000"), "odds(0, 0", 0, 1);
        share(sea("y000000;b0001000"), "odds(0, 0", 0, 1);
        share(sea("y99;b0001000"), "odds(0, 0", 1, 1);
        share(sea("y999999;b0001000"), "odds(0, 0", 1, 1);
    }

    static void promise20_leastTerms() {
        String[] ways = {"900000", "990000", "999000", "999900", "999990"};
        int[][] want = {{1, 6}, {1, 3}, {1, 2}, {2, 3}, {5, 6}};
        for (int w = 0; w < ways.length; w++) {
            share(sea("y" + ways[w] + ";b0001000"), "odds(0, 0", want[w][0], want[w][1]);
        }
        share(sea("y9009;b0001000"), "odds(0, 0", 1, 2);
        share(sea("y9990;b0001000"), "odds(0, 0", 3, 4);
        share(sea("y90909;b0001000"), "odds(0, 0", 3, 5);
        share(sea("y099;b0001000"), "odds(0, 0", 2, 3);
    }

    static void promise20_justAsRoughIsBorne() {
        share(sea("y67;b0601000"), "odds(0, 0", 1, 2);
        share(sea("y66;b0601000"), "odds(0, 0", 0, 1);
        share(sea("y67;c0501000"), "odds(0, 0", 1, 2);
        share(sea("y67;s0301000"), "odds(0, 0", 1, 2);
    }

    static void promise20_onlyTheGoodThatGoesFirst() {
        Yard x = sea("y99;b2001011");
        for (int g = 0; g < 4; g++) {
            share(x, "odds(0, " + g, g == 2 ? 1 : 0, 1);
        }
        x.due("off(0, 2, 1)", 0);
        for (int g = 0; g < 4; g++) {
            share(x, "odds(0, " + g, g == 0 ? 1 : 0, 1);
        }
        x.due("off(0, 0, 1)", 0);
        for (int g = 0; g < 4; g++) {
            share(x, "odds(0, " + g, g == 3 ? 1 : 0, 1);
        }
        x.due("off(0, 3, 1)", 0);
        for (int g = 0; g < 4; g++) {
            share(x, "odds(0, " + g, 0, 1);
        }
    }

    static void promise20_whereItIsDoesNotCount() {
        share(sea("y9000;b0001000;b0011000"), "odds(0, 0", 1, 4);
        share(sea("y9000;b0001000;b0011000"), "odds(1, 0", 1, 4);
    }

    // ---- 21 premium

    static void promise21_shipsThatThereAre() {
        sea(THREE).same("premium(2, 1)", 2).refused("premium(3, 0)", UNKNOWN)
            .refused("premium(-1, 0)", UNKNOWN).refused("premium(MIN, 0)", UNKNOWN)
            .refused("premium(MAX, 0)", UNKNOWN);
        yard().refused("premium(0, 0)", UNKNOWN);
    }

    static void promise21_whichIs0Or1() {
        sea("y90;b3001111").same("premium(0, 0)", 2).same("premium(0, 1)", 1)
            .refused("premium(0, 2)", OUTSIDE).refused("premium(0, -1)", OUTSIDE)
            .refused("premium(0, MIN)", OUTSIDE).refused("premium(0, MAX)", OUTSIDE);
    }

    static void promise21_aRefusalIsNoFault() {
        sea(THREE).faulted("put(3, 0, 0)", NULL).due("premium(3, 2)", YardNames.LOST)
            .due("fault()", 1).due("premium(0, 0)", 1).due("fault()", 1);
    }

    static void promise21_nothingIsLost() {
        share(sea("y00;b3009999"), "premium(0", 0, 1);
        share(sea("y000000;b3009999"), "premium(0", 0, 1);
        share(sea("y999999;b3000000"), "premium(0", 0, 1);
    }

    static void promise21_worthOfEachGood() {
        for (int g = 0; g < 4; g++) {
            share(sea("y99;b" + g + "001111"), "premium(0", g + 1, 1);
        }
        share(sea("y90000;b0001000"), "premium(0", 1, 5);
        share(sea("y90000;b1000100"), "premium(0", 2, 5);
        share(sea("y90000;b2000010"), "premium(0", 3, 5);
        share(sea("y90000;b3000001"), "premium(0", 4, 5);
    }

    static void promise21_leastTerms() {
        // Good 3 on 1 to 6 of six ways: 4, 8, 12, 16, 20, 24 sixths.
        int[][] want = {{2, 3}, {4, 3}, {2, 1}, {8, 3}, {10, 3}, {4, 1}};
        for (int n = 1; n <= 6; n++) {
            String ways = "999999".substring(0, n) + "000000".substring(n);
            share(sea("y" + ways + ";b3000001"), "premium(0", want[n - 1][0], want[n - 1][1]);
        }
        share(sea("y9000;b1000100"), "premium(0", 1, 2);
        share(sea("y900;b2000010"), "premium(0", 1, 1);
        share(sea("y9990;b3000001"), "premium(0", 3, 1);
    }

    static void promise21_worthOfWhatGoesFirst() {
        Yard x = sea("y9990;b3000101");
        share(x, "premium(0", 3, 1).due("off(0, 3, 1)", 0);
        share(x, "premium(0", 3, 2).due("load(0, 0, 9)", 9);
        share(x, "premium(0", 3, 4);
    }

    static void promise21_justAsRoughIsBorne() {
        share(sea("y67;b3600001"), "premium(0", 2, 1);
        share(sea("y66;b3600001"), "premium(0", 0, 1);
        share(sea("y67;c3500001"), "premium(0", 2, 1);
        share(sea("y67;s3300001"), "premium(0", 2, 1);
    }
}
