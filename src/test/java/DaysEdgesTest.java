/** The boundary cases of promises 7 to 10: days, load, off, voyage. */
public final class DaysEdgesTest {
    private static final Checks C = new Checks("DaysEdgesTest");
    private static final int UNKNOWN = YardNames.UNKNOWN, OUTSIDE = YardNames.OUTSIDE;
    private static final int STATE = YardNames.STATE, FULL = YardNames.FULL;
    private static final int NONE = YardNames.NONE;
    private static final int NULL = 1, CAST = 2, INDEX = 3;

    /** Two ships, the second of which carries nothing; all ways are too rough for both. */
    private static final String TWO = "y99;b0009500;b1010000";

    public static void main(String[] args) {
        C.runPromises(DaysEdgesTest.class);
    }

    private static Yard yard() {
        return new Yard(C);
    }

    // ---- 7 days

    static void promise07_from1To30() {
        yard().sea(TWO).refused("days(0)", OUTSIDE).refused("days(-1)", OUTSIDE)
            .refused("days(31)", OUTSIDE).refused("days(MIN)", OUTSIDE)
            .refused("days(MAX)", OUTSIDE).due("days(1)", 1).due("many(2)", 1)
            .due("days(30)", 13).due("many(2)", 31).refused("days(31)", OUTSIDE)
            .due("many(2)", 31);
    }

    static void promise07_withoutASea() {
        yard().refused("days(1)", STATE).refused("days(30)", STATE).due("many(2)", 0);
    }

    static void promise07_outsideGoesAheadOfState() {
        yard().refused("days(0)", OUTSIDE).refused("days(31)", OUTSIDE);
    }

    static void promise07_namesNoFault() {
        yard().sea(TWO).faulted("put(3, 0, 0)", NULL).due("days(1)", 1).due("fault()", 1);
    }

    static void promise07_justAsRoughIsBorne() {
        // The CUTTER bears 6, the SLOOP 6, the BARGE 6: no piece is lost on 6, each loses on 7.
        yard().sea("y67;b0601000;c0501000;s0301000").due("days(1)", 0).due("many(3)", 0)
            .due("days(1)", 3).due("many(3)", 3);
        yard().sea("y01;b0001000").due("days(1)", 0).due("days(1)", 1);
        yard().sea("y99;b0901000;b0801000;c0801000;c0701000").due("days(1)", 2)
            .due("ofShip(0, 10)", 1).due("ofShip(1, 10)", 0).due("ofShip(2, 10)", 1)
            .due("ofShip(3, 10)", 0);
        yard().sea("y99;s0501000;s0401000").due("days(1)", 1).due("ofShip(0, 10)", 1)
            .due("ofShip(1, 10)", 0);
    }

    static void promise07_itsNameGoesFirst() {
        yard().sea("y99;b3001112").due("days(1)", 1).due("ofShip(0, 13)", 1)
            .due("ofShip(0, 10)", 1).due("days(1)", 1).due("ofShip(0, 13)", 0)
            .due("ofShip(0, 10)", 1).due("ofShip(0, 5)", 1);
    }

    static void promise07_thenTheLeastGood() {
        yard().sea("y99;b1001011").due("days(1)", 1).due("ofShip(0, 10)", 0)
            .due("ofShip(0, 12)", 1).due("days(1)", 1).due("ofShip(0, 12)", 0)
            .due("ofShip(0, 13)", 1).due("days(1)", 1).due("ofShip(0, 13)", 0);
    }

    static void promise07_nothingIfItCarriesNone() {
        yard().sea("y99;b1000000").due("days(30)", 0).due("ofShip(0, 7)", 0)
            .due("ofShip(0, 4)", 0).due("many(2)", 30);
    }

    static void promise07_behindTheLastPortComesPort0() {
        yard().sea("y0000;b0030000;b0000000").due("days(1)", 0).due("ofShip(0, 4)", 0)
            .due("ofShip(1, 4)", 1).due("days(3)", 0).due("ofShip(0, 4)", 3)
            .due("ofShip(1, 4)", 0);
        yard().sea("y000000;b0050000").due("days(30)", 0).due("ofShip(0, 4)", 5)
            .due("days(1)", 0).due("ofShip(0, 4)", 0);
    }

    static void promise07_theWayBehindTheLastPort() {
        // Only the way round to port 0 is too rough.
        yard().sea("y009;b0008000").due("days(2)", 0).due("days(1)", 1).due("ofShip(0, 4)", 0)
            .due("days(30)", 7).due("days(3)", 0);
    }

    static void promise07_piecesOfAllShips() {
        yard().sea("y99;b0001000;b0001000;b0001000;b0001000;b0001000").due("days(1)", 5)
            .due("many(3)", 5).due("days(1)", 0);
    }

    // ---- 8 load

    static void promise08_from1To9Pieces() {
        yard().sea(TWO).refused("load(1, 2, 0)", OUTSIDE).refused("load(1, 2, -1)", OUTSIDE)
            .refused("load(1, 2, 10)", OUTSIDE).refused("load(1, 2, MIN)", OUTSIDE)
            .refused("load(1, 2, MAX)", OUTSIDE).due("load(1, 2, 1)", 1).due("ofShip(1, 12)", 1)
            .due("load(1, 3, 9)", 9).due("ofShip(1, 13)", 9);
    }

    static void promise08_goods0To3() {
        yard().sea(TWO).refused("load(1, -1, 1)", OUTSIDE).refused("load(1, 4, 1)", OUTSIDE)
            .refused("load(1, MIN, 1)", OUTSIDE).refused("load(1, MAX, 1)", OUTSIDE)
            .due("load(1, 0, 1)", 1).due("load(1, 3, 2)", 2).due("ofShip(1, 10)", 1)
            .due("ofShip(1, 13)", 2).due("ofShip(1, 7)", 3);
    }

    static void promise08_shipsThatThereAre() {
        yard().sea(TWO).refused("load(2, 0, 1)", UNKNOWN).refused("load(-1, 0, 1)", UNKNOWN)
            .refused("load(MIN, 0, 1)", UNKNOWN).refused("load(MAX, 0, 1)", UNKNOWN)
            .due("load(0, 2, 1)", 1).due("load(1, 2, 2)", 2).due("ofShip(0, 12)", 1);
    }

    static void promise08_noMoreThan9() {
        yard().sea(TWO).refused("load(0, 0, 1)", FULL).refused("load(0, 1, 5)", FULL)
            .due("load(0, 1, 4)", 9).refused("load(0, 1, 1)", FULL).due("ofShip(0, 11)", 9)
            .due("load(1, 0, 8)", 8).refused("load(1, 0, 2)", FULL).due("load(1, 0, 1)", 9)
            .refused("load(1, 0, 9)", FULL);
    }

    static void promise08_orderOfRefusals() {
        yard().sea(TWO).refused("load(2, 4, 0)", UNKNOWN).refused("load(0, 4, 1)", OUTSIDE)
            .refused("load(0, 0, 0)", OUTSIDE).refused("load(0, 0, 10)", OUTSIDE)
            .refused("load(0, 0, 9)", FULL);
    }

    static void promise08_namesNoFault() {
        yard().sea(TWO).faulted("put(3, 0, 0)", NULL).due("load(1, 1, 1)", 1).due("fault()", 1);
    }

    static void promise08_ofItsNameItIsMetNoMore() {
        yard().sea(TWO).due("many(3)", 1).due("load(1, 0, 1)", 1).due("many(3)", 1)
            .due("load(1, 1, 1)", 1).due("many(3)", 0);
    }

    // ---- 9 off

    static void promise09_from1To9Pieces() {
        yard().sea(TWO).refused("off(0, 0, 0)", OUTSIDE).refused("off(0, 0, -1)", OUTSIDE)
            .refused("off(0, 0, 10)", OUTSIDE).refused("off(0, 0, MIN)", OUTSIDE)
            .refused("off(0, 0, MAX)", OUTSIDE).due("off(0, 1, 1)", 4).due("ofShip(0, 11)", 4)
            .due("off(0, 0, 9)", 0).due("ofShip(0, 10)", 0);
    }

    static void promise09_goods0To3() {
        yard().sea("y00;b0001001").refused("off(0, -1, 1)", OUTSIDE)
            .refused("off(0, 4, 1)", OUTSIDE).refused("off(0, MIN, 1)", OUTSIDE)
            .refused("off(0, MAX, 1)", OUTSIDE).due("off(0, 0, 1)", 0).due("off(0, 3, 1)", 0)
            .due("ofShip(0, 7)", 0);
    }

    static void promise09_shipsThatThereAre() {
        yard().sea("y00;b0003000;b0003000").refused("off(2, 0, 1)", UNKNOWN)
            .refused("off(-1, 0, 1)", UNKNOWN).refused("off(MIN, 0, 1)", UNKNOWN)
            .refused("off(MAX, 0, 1)", UNKNOWN).due("off(1, 0, 2)", 1).due("ofShip(0, 10)", 3);
    }

    static void promise09_asManyAsItHas() {
        yard().sea(TWO).refused("off(0, 1, 6)", STATE).refused("off(0, 2, 1)", STATE)
            .due("off(0, 1, 5)", 0).refused("off(0, 1, 1)", STATE).refused("off(1, 0, 9)", STATE)
            .due("ofShip(0, 10)", 9);
    }

    static void promise09_orderOfRefusals() {
        yard().sea(TWO).refused("off(2, 4, 0)", UNKNOWN).refused("off(1, 4, 1)", OUTSIDE)
            .refused("off(1, 0, 0)", OUTSIDE).refused("off(1, 0, 10)", OUTSIDE)
            .refused("off(1, 0, 1)", STATE);
    }

    static void promise09_namesNoFault() {
        yard().sea(TWO).faulted("put(3, 0, 0)", NULL).due("off(0, 1, 1)", 4).due("fault()", 1);
    }

    static void promise09_itsLastPieceOfItsName() {
        yard().sea(TWO).due("off(0, 0, 8)", 1).due("ofShip(0, 5)", 0).due("off(0, 0, 1)", 0)
            .due("ofShip(0, 5)", 1);
    }

    // ---- 10 voyage: REFUSALS and FAULTS

    private static Yard pairs(String text, int... pairs) {
        return yard().sea(text).row(1, 2, pairs);
    }

    private static String voyage(int n, int what) {
        return "voyage(1, 2, 0, " + n + ", " + what + ")";
    }

    static void promise10_sheets0To3() {
        for (int k = 0; k < 4; k++) {
            yard().sea(TWO).row(k, 2, 0, 4).same("voyage(" + k + ", 2, 0, 1, 10)", 18);
        }
        for (String k : new String[] {"-1", "4", "MIN", "MAX"}) {
            pairs(TWO, 0, 4).refused("voyage(" + k + ", 2, 0, 1, 10)", UNKNOWN);
        }
    }

    static void promise10_lanes0To2() {
        for (int lane = 0; lane < 3; lane++) {
            yard().sea(TWO).row(1, lane, 0, 4).same("voyage(1, " + lane + ", 0, 1, 10)", 18);
        }
        for (String lane : new String[] {"-1", "3", "MIN", "MAX"}) {
            pairs(TWO, 0, 4).refused("voyage(1, " + lane + ", 0, 1, 10)", OUTSIDE);
        }
    }

    static void promise10_from0To20Pairs() {
        int[] cells = new int[42];
        for (int p = 0; p < 21; p++) {
            cells[2 * p + 1] = 8;
        }
        Yard x = pairs(TWO, cells);
        x.same(voyage(0, 0), 0).same(voyage(1, 0), 0).same(voyage(20, 0), 0)
            .refused(voyage(21, 0), OUTSIDE).refused(voyage(-1, 0), OUTSIDE)
            .refused("voyage(1, 2, 0, MIN, 0)", OUTSIDE)
            .refused("voyage(1, 2, 0, MAX, 0)", OUTSIDE);
    }

    static void promise10_lengthBelow0IsOutsideNotSize() {
        yard().refused("voyage(0, 0, 0, -1, 0)", OUTSIDE).faulted("voyage(0, 0, 0, 0, 0)", NULL);
    }

    static void promise10_whats() {
        Yard x = pairs(TWO, 1, 8);
        int[] want = {1, NONE, 2, 1, 0};
        for (int what = 0; what <= 4; what++) {
            x.same(voyage(1, what), want[what]);
        }
        x.same(voyage(1, 10), 18).same(voyage(1, 11), 0);
        for (int what = 12; what <= 14; what++) {
            x.same(voyage(1, what), NONE);
        }
        for (String what : new String[] {"-1", "5", "9", "15", "MIN", "MAX", "-10"}) {
            x.refused("voyage(1, 2, 0, 1, " + what + ")", OUTSIDE);
        }
    }

    static void promise10_unknownGoesAheadOfOutside() {
        pairs(TWO, 1, 8).refused("voyage(4, 3, 0, 21, 5)", UNKNOWN)
            .refused("voyage(3, 3, 0, 21, 5)", OUTSIDE);
    }

    static void promise10_outsideGoesAheadOfFaults() {
        Yard x = pairs(TWO, 1, 8);
        x.refused("voyage(3, 0, 0, 21, 0)", OUTSIDE).refused("voyage(3, 0, 0, 0, 5)", OUTSIDE)
            .refused("voyage(3, 3, 0, 0, 0)", OUTSIDE).refused("voyage(1, 0, 9, 20, 9)", OUTSIDE)
            .faulted("voyage(1, 0, 9, 20, 4)", CAST);
    }

    static void promise10_castGoesAheadOfIndex() {
        pairs(TWO, 1, 8).faulted("voyage(1, 1, 0, 1, 0)", CAST)
            .faulted("voyage(1, 0, 3, 0, 0)", CAST).faulted("voyage(0, 2, -1, 20, 0)", CAST);
    }

    static void promise10_nothingIsNoCast() {
        for (int lane = 0; lane < 3; lane++) {
            pairs(TWO, 1, 8).faulted("voyage(3, " + lane + ", 0, 1, 0)", NULL)
                .due("lose(1)", 1).faulted("voyage(1, " + lane + ", 9, 9, 0)", NULL);
        }
    }

    static void promise10_twoCellsAPair() {
        pairs(TWO, 1, 8, 1, 8).same(voyage(2, 0), 2).faulted(voyage(3, 0), INDEX)
            .faulted("voyage(1, 2, 1, 2, 0)", INDEX).faulted("voyage(1, 2, -1, 2, 0)", INDEX)
            .same("voyage(1, 2, 2, 1, 0)", 1).faulted("voyage(1, 2, 3, 1, 0)", INDEX);
        pairs(TWO, 1, 8, 1).same(voyage(1, 0), 1).faulted(voyage(2, 0), INDEX);
    }

    static void promise10_noneTakenFrom0ToTheEnd() {
        pairs(TWO, 1, 8, 1).same("voyage(1, 2, 0, 0, 10)", 19)
            .same("voyage(1, 2, 3, 0, 10)", 19).faulted("voyage(1, 2, 4, 0, 10)", INDEX)
            .faulted("voyage(1, 2, -1, 0, 10)", INDEX);
        pairs(TWO).same("voyage(1, 2, 0, 0, 1)", NONE).faulted("voyage(1, 2, 1, 0, 1)", INDEX);
    }

    static void promise10_indexOfSumsThatWrap() {
        pairs(TWO, 1, 8).faulted("voyage(1, 2, MAX, 1, 0)", INDEX)
            .faulted("voyage(1, 2, MAX, 20, 0)", INDEX).faulted("voyage(1, 2, MIN, 20, 0)", INDEX)
            .faulted("voyage(1, 2, MAX, 0, 0)", INDEX);
    }

    static void promise10_faultsGoAheadOfState() {
        yard().row(1, 2, 1, 8).faulted("voyage(1, 0, 0, 1, 0)", CAST)
            .faulted("voyage(2, 0, 0, 1, 0)", NULL).faulted("voyage(1, 2, 1, 1, 0)", INDEX)
            .refused("voyage(1, 2, 0, 1, 0)", STATE);
    }

    static void promise10_stateGoesAheadOfPairs() {
        yard().row(1, 2, 1, 9).refused("voyage(1, 2, 0, 1, 0)", STATE)
            .refused("voyage(1, 2, 0, 0, 1)", STATE).refused("voyage(1, 2, 0, 1, 14)", STATE);
    }

    static void promise10_faultIs0BehindARefusalOrAWrong() {
        Yard x = pairs(TWO, 1, 7);
        x.faulted(voyage(2, 0), INDEX).due("fault()", 3).due(voyage(1, 0), -100)
            .due("fault()", 0).faulted(voyage(2, 0), INDEX).due(voyage(1, 1), 0)
            .due("fault()", 0).faulted(voyage(2, 0), INDEX).due(voyage(21, 0), OUTSIDE)
            .due("fault()", 0);
    }

    // ---- 10 voyage: its pairs

    static void promise10_acts0To8() {
        for (int act = 0; act <= 3; act++) {
            pairs("y00;b0005555", 0, act).same(voyage(1, 10), 51 + act).same(voyage(1, 1), NONE);
        }
        for (int act = 4; act <= 7; act++) {
            pairs("y00;b0005555", 0, act).same(voyage(1, 10), 53 - act).same(voyage(1, 1), NONE);
        }
        pairs("y99;b0005555", 1, 8).same(voyage(1, 10), 49);
        for (int act : new int[] {-1, 9, Integer.MIN_VALUE, Integer.MAX_VALUE}) {
            pairs("y00;b0005555", 0, act).refused(voyage(1, 10), OUTSIDE)
                .refused(voyage(1, 1), OUTSIDE);
        }
    }

    static void promise10_days0To9() {
        int[] lost = {0, 1, 2, 3, 4, 5, 6, 7, 8, 9};
        for (int n = 0; n <= 9; n++) {
            pairs(TWO, n, 8).same(voyage(1, 0), lost[n]);
        }
        for (int n : new int[] {-1, 10, Integer.MIN_VALUE, Integer.MAX_VALUE}) {
            pairs(TWO, n, 8).refused(voyage(1, 0), OUTSIDE).refused(voyage(1, 1), OUTSIDE);
        }
    }

    static void promise10_shipsThatThereAre() {
        for (int act = 0; act < 8; act++) {
            Yard x = pairs("y00;b0005555;b0005555", 1, act, 2, act, -1, act);
            x.same(voyage(1, 1), NONE).refused(voyage(2, 1), UNKNOWN)
                .refused("voyage(1, 2, 2, 1, 1)", UNKNOWN)
                .refused("voyage(1, 2, 4, 1, 1)", UNKNOWN);
        }
        pairs(TWO, Integer.MAX_VALUE, 0).refused(voyage(1, 0), UNKNOWN);
        pairs(TWO, Integer.MIN_VALUE, 7).refused(voyage(1, 0), UNKNOWN);
    }

    static void promise10_aNumberOfDaysIsNoShip() {
        // Two ships: 9 days are no ship 9.
        pairs(TWO, 9, 8).same(voyage(1, 0), 9);
        pairs(TWO, 9, 7).refused(voyage(1, 0), UNKNOWN);
    }

    static void promise10_ofOnePairOutsideGoesAhead() {
        pairs(TWO, 2, 9).refused(voyage(1, 0), OUTSIDE);
        pairs(TWO, -1, -1).refused(voyage(1, 0), OUTSIDE);
        pairs(TWO, 2, 7).refused(voyage(1, 0), UNKNOWN);
    }

    static void promise10_theFirstPairThatIsRefused() {
        pairs(TWO, 2, 0, 0, 9).refused(voyage(2, 0), UNKNOWN);
        pairs(TWO, 0, 9, 2, 0).refused(voyage(2, 0), OUTSIDE);
        pairs(TWO, 10, 8, 2, 0).refused(voyage(2, 0), OUTSIDE);
        pairs(TWO, 0, 8, 2, 0, 10, 8).same(voyage(1, 0), 0).refused(voyage(2, 0), UNKNOWN)
            .refused(voyage(3, 0), UNKNOWN);
    }

    static void promise10_aRefusedPairGoesAheadOfAWrongAct() {
        pairs(TWO, 1, 7, 2, 0).same(voyage(1, 1), 0).refused(voyage(2, 1), UNKNOWN)
            .refused(voyage(2, 0), UNKNOWN);
        pairs(TWO, 1, 7, 0, 9).refused(voyage(2, 1), OUTSIDE);
    }

    static void promise10_pairsBehindNAreNotLookedAt() {
        pairs(TWO, 0, 4, 2, 9).same(voyage(1, 10), 18).refused(voyage(2, 10), OUTSIDE);
        pairs(TWO, 0, 9, 0, 4).same("voyage(1, 2, 2, 1, 10)", 18);
    }

    // ---- 10 voyage: its acts

    static void promise10_aTenthPieceIsWrong() {
        pairs("y00;b0008000", 0, 0, 0, 0).same(voyage(1, 1), NONE).same(voyage(1, 10), 9)
            .same(voyage(2, 1), 1).same(voyage(2, 10), -101);
        for (int g = 0; g < 4; g++) {
            pairs("y00;b0009999", 0, g).same(voyage(1, 1), 0).same(voyage(1, 0), -100);
        }
    }

    static void promise10_offOfNoneIsWrong() {
        pairs("y00;b0001000", 0, 4, 0, 4).same(voyage(1, 1), NONE).same(voyage(1, 10), 0)
            .same(voyage(2, 1), 1).same(voyage(2, 10), -101);
        for (int g = 0; g < 4; g++) {
            pairs("y00;b0000000", 0, 4 + g).same(voyage(1, 1), 0).same(voyage(1, 0), -100);
        }
    }

    static void promise10_whatAWrongOneAnswers() {
        Yard x = pairs(TWO, 0, 4, 1, 7, 1, 7);
        for (int what : new int[] {0, 2, 3, 4, 10, 11, 12, 13, 14}) {
            x.same(voyage(3, what), -101);
        }
        x.same(voyage(3, 1), 1);
    }

    static void promise10_theFirstAndTheTwentiethWrong() {
        int[] cells = new int[40];
        for (int p = 0; p < 20; p++) {
            cells[2 * p + 1] = p % 2 == 0 ? 4 : 0;
        }
        Yard x = pairs(TWO, cells);
        x.same(voyage(20, 1), NONE).same(voyage(20, 10), 19).due("put(1, 39, 7)", 1)
            .same(voyage(20, 1), 19).same(voyage(20, 0), -119).same(voyage(19, 1), NONE)
            .due("put(1, 1, 7)", 1).same(voyage(20, 1), 0).same(voyage(20, 0), -100);
    }

    static void promise10_actsAreHeldAgainstEarlierOnes() {
        // Full by the text: there is room once one is put off, or lost.
        pairs(TWO, 0, 4, 0, 0, 0, 0).same(voyage(2, 1), NONE).same(voyage(3, 1), 2);
        pairs(TWO, 1, 8, 0, 0, 0, 0).same(voyage(2, 1), NONE).same(voyage(3, 1), 2);
        pairs(TWO, 1, 3, 1, 7, 1, 7).same(voyage(2, 1), NONE).same(voyage(3, 1), 2);
        pairs(TWO, 1, 3, 1, 8, 1, 7).same(voyage(2, 1), NONE).same(voyage(3, 1), 2);
    }

    static void promise10_emptyVoyage() {
        Yard x = pairs(TWO);
        x.same(voyage(0, 0), 0).same(voyage(0, 1), NONE).same(voyage(0, 2), 2)
            .same(voyage(0, 3), 0).same(voyage(0, 4), NONE).same(voyage(0, 10), 19)
            .same(voyage(0, 11), 0).same(voyage(0, 12), NONE);
    }

    static void promise10_noDaysAndManyDays() {
        pairs(TWO, 0, 8).same(voyage(1, 0), 0).same(voyage(1, 4), NONE).same(voyage(1, 10), 19);
        int[] cells = new int[40];
        for (int p = 0; p < 20; p++) {
            cells[2 * p] = 9;
            cells[2 * p + 1] = 8;
        }
        // 180 days: all is lost, no more than there was.
        pairs("y99;b0009999;b0019999", cells).same(voyage(20, 0), 72).same(voyage(20, 3), 180)
            .same(voyage(20, 2), 3).same(voyage(20, 10), 0).same(voyage(4, 0), 72)
            .same(voyage(3, 0), 54);
    }

    static void promise10_itBeginsWhereShipsAreNow() {
        // The way behind port 1 alone is rough; the ship is in port 0, a day later in port 1.
        Yard x = pairs("y09;b0005000", 1, 8);
        x.same(voyage(1, 0), 0).due("days(1)", 0).same(voyage(1, 0), 1).due("days(1)", 1)
            .same(voyage(1, 0), 0).same(voyage(1, 10), 4);
    }

    static void promise10_justAsRoughIsBorne() {
        // By kind they bear 6 each, so that all lose on 7 and none on 6.
        pairs("y67;b0602000;c0502000;s0302000", 1, 8, 1, 8).same(voyage(1, 0), 0)
            .same(voyage(2, 0), 3).same(voyage(2, 3), 3).same(voyage(2, 4), 0)
            .same(voyage(2, 10), 1).same(voyage(2, 11), 1).same(voyage(2, 12), 1);
        pairs("y99;b0901000;b0801000;c0801000;c0701000", 1, 8).same(voyage(1, 2), 10);
        pairs("y99;s0501000;s0401000", 1, 8).same(voyage(1, 2), 2);
    }

    static void promise10_aNewNameIsGoneBy() {
        pairs("y99;b0001001", 1, 8).same(voyage(1, 3), 1).due("name(0, 3)", 0)
            .same(voyage(1, 3), 4).same(voyage(1, 2), 1);
    }

    static void promise10_ofASeaThatIsMadeAnew() {
        // The ships of an earlier sea leave nothing in a voyage that is told of a new one.
        Yard x = pairs("y99;s3919999;s3919999", 9, 8).same(voyage(1, 11), 90);
        x.text(2, "y90;b0000100").due("sea(2, 0, 0, 12)", 1).same(voyage(1, 0), 1)
            .same(voyage(1, 2), 1).same(voyage(1, 10), 0).same(voyage(1, 11), NONE);
    }

    static void promise10_whoIsMet() {
        pairs(TWO, 1, 1, 9, 8).same("voyage(1, 2, 0, 1, 2)", 0).same(voyage(2, 2), 3)
            .same("voyage(1, 2, 2, 1, 2)", 3);
        pairs(TWO, 8, 8).same(voyage(1, 2), 2);
        pairs("y00;b0001000;b0000111;b0001000;b0001000;b0000000").same(voyage(0, 2), 18);
    }

    static void promise10_firstToLoseItsName() {
        // On day 1 ship 1 and 2 lose a piece of their names, ship 0 but on day 2.
        String three = "y19;b0501000;b1000100;b2000010";
        pairs(three, 1, 8, 1, 8).same(voyage(0, 4), NONE).same(voyage(1, 4), 1)
            .same(voyage(2, 4), 1);
        pairs(three, 1, 5, 2, 8).same(voyage(2, 4), 2);
        pairs(three, 1, 5, 2, 6, 1, 8).same(voyage(3, 4), NONE);
        pairs(three, 1, 5, 2, 6, 2, 8).same(voyage(3, 4), 0);
    }

    static void promise10_anotherGoodIsNoLossOfItsName() {
        pairs("y99;b3001000", 1, 8).same(voyage(1, 0), 1).same(voyage(1, 4), NONE);
        pairs("y99;b3001001", 1, 8).same(voyage(1, 0), 1).same(voyage(1, 4), 0);
    }

    static void promise10_whatIsPutOffIsNotLost() {
        pairs(TWO, 0, 4, 0, 5).same(voyage(2, 0), 0).same(voyage(2, 3), 0)
            .same(voyage(2, 10), 16).same(voyage(2, 4), NONE);
    }

    static void promise10_worthLostOfEachGood() {
        for (int g = 0; g < 4; g++) {
            pairs("y99;b" + g + "001111", 1, 8).same(voyage(1, 3), g + 1)
                .same(voyage(1, 10), 9 - g);
        }
    }

    static void promise10_noSuchShip() {
        pairs(TWO, 1, 8).same(voyage(1, 11), 0).same(voyage(1, 12), NONE)
            .same(voyage(1, 14), NONE);
        pairs("y99;b0001000;b0001000;b0001000;b0001000;b0000009", 1, 8).same(voyage(1, 14), 32);
    }

    static void promise10_itIsNotSailed() {
        pairs(TWO, 9, 8, 0, 0, 1, 3).same(voyage(3, 0), 9).same(voyage(3, 0), 9)
            .due("many(2)", 0).due("ofShip(0, 10)", 9).due("ofShip(0, 4)", 0)
            .due("ofShip(1, 4)", 1).due("ofShip(1, 13)", 0);
    }

    static void promise10_bytesAreCut() {
        // 264 is cut to 8 and 257 to 1 in a row of bytes; in a row of shorts they stay.
        yard().sea(TWO).row(1, 0, 257, 264).same("voyage(1, 0, 0, 1, 0)", 1);
        yard().sea(TWO).row(1, 1, 257, 264).refused("voyage(1, 1, 0, 1, 0)", OUTSIDE);
    }
}
