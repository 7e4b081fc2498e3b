/** The boundary cases of promises 22 to 32: sheets, telling, trace, fault, many. */
public final class SheetsEdgesTest {
    private static final Checks C = new Checks("SheetsEdgesTest");
    private static final int UNKNOWN = YardNames.UNKNOWN, OUTSIDE = YardNames.OUTSIDE;
    private static final int STATE = YardNames.STATE, FULL = YardNames.FULL;
    private static final int NULL = 1, CAST = 2, INDEX = 3, SIZE = 4;
    private static final String[] NO_SHEETS = {"-1", "4", "MIN", "MAX"};
    private static final String[] NO_LANES = {"-1", "3", "MIN", "MAX"};

    /** A BARGE, a CUTTER, a SLOOP. */
    private static final String THREE = "y00;b2300000;c1400000;s3500000";

    public static void main(String[] args) {
        C.runPromises(SheetsEdgesTest.class);
    }

    private static Yard yard() {
        return new Yard(C);
    }

    private static Yard holds(Yard x, int sheet, int lane, int... cells) {
        for (int i = 0; i < cells.length; i++) {
            x.same("cell(" + sheet + ", " + i + ", " + lane + ")", cells[i]);
        }
        return x.faulted("cell(" + sheet + ", " + cells.length + ", " + lane + ")", INDEX);
    }

    // ---- 22 sheet

    static void promise22_sheets0To3() {
        for (int k = 0; k < 4; k++) {
            holds(yard().due("sheet(" + k + ", 2, 2)", 1), k, 2, 0, 0);
        }
        for (String k : NO_SHEETS) {
            yard().row(0, 2, 7).row(3, 2, 7).refused("sheet(" + k + ", 2, 2)", UNKNOWN);
        }
    }

    static void promise22_lanes0To2() {
        for (int lane = 0; lane < 3; lane++) {
            holds(yard().due("sheet(0, " + lane + ", 1)", 1), 0, lane, 0);
        }
        for (String lane : NO_LANES) {
            yard().row(0, 2, 7).refused("sheet(0, " + lane + ", 1)", OUTSIDE);
        }
    }

    static void promise22_from0To60Cells() {
        yard().due("sheet(1, 0, 0)", 1).faulted("cell(1, 0, 0)", INDEX);
        yard().due("sheet(1, 0, 1)", 1).same("cell(1, 0, 0)", 0).faulted("cell(1, 1, 0)", INDEX);
        yard().due("sheet(1, 0, 60)", 1).due("put(1, 59, 7)", 1).same("cell(1, 59, 0)", 7)
            .faulted("cell(1, 60, 0)", INDEX);
        yard().row(1, 2, 7).refused("sheet(1, 0, 61)", OUTSIDE)
            .refused("sheet(1, 0, MAX)", OUTSIDE).same("cell(1, 0, 2)", 7);
    }

    static void promise22_lengthBelow0IsSize() {
        yard().row(1, 2, 7).faulted("sheet(1, 0, -1)", SIZE).faulted("sheet(1, 0, MIN)", SIZE)
            .same("cell(1, 0, 2)", 7).due("sheet(1, 0, 0)", 1).due("fault()", 0);
        yard().faulted("sheet(1, 0, -1)", SIZE).faulted("put(1, 0, 0)", NULL);
    }

    static void promise22_orderOfRefusalsAndFaults() {
        yard().row(1, 2, 7).refused("sheet(4, 3, -1)", UNKNOWN).refused("sheet(4, 3, 61)", UNKNOWN)
            .refused("sheet(1, 3, -1)", OUTSIDE).refused("sheet(1, 3, 61)", OUTSIDE)
            .refused("sheet(1, 2, 61)", OUTSIDE).faulted("sheet(1, 2, -1)", SIZE);
    }

    static void promise22_aNewRowIs0() {
        holds(yard().row(1, 2, 7, 8, 9).due("sheet(1, 2, 3)", 1), 1, 2, 0, 0, 0);
        holds(yard().row(1, 2, 7, 8, 9).due("sheet(1, 2, 1)", 1), 1, 2, 0);
        // What a longer row had does not come up again.
        holds(yard().row(1, 2, 7, 8, 9).due("sheet(1, 2, 1)", 1).due("sheet(1, 2, 3)", 1),
            1, 2, 0, 0, 0);
        holds(yard().row(1, 2, 7, 8, 9).due("lose(1)", 1).due("sheet(1, 2, 3)", 1),
            1, 2, 0, 0, 0);
    }

    static void promise22_aNewRowOfAnotherLane() {
        yard().row(1, 2, 7).due("sheet(1, 0, 1)", 1).same("cell(1, 0, 0)", 0)
            .faulted("cell(1, 0, 2)", CAST).due("put(1, 0, 128)", 1).same("cell(1, 0, 0)", -128);
    }

    static void promise22_otherSheetsStay() {
        Yard x = yard().row(0, 0, 5).row(1, 1, 6).row(2, 2, 7).due("sheet(1, 2, 2)", 1);
        holds(holds(x, 0, 0, 5), 2, 2, 7).faulted("put(3, 0, 0)", NULL);
    }

    // ---- 23 lose

    static void promise23_sheets0To3() {
        for (int k = 0; k < 4; k++) {
            yard().row(k, 2, 7).due("lose(" + k + ")", 1).faulted("cell(" + k + ", 0, 2)", NULL);
        }
        for (String k : NO_SHEETS) {
            yard().row(0, 2, 7).row(3, 2, 7).refused("lose(" + k + ")", UNKNOWN);
        }
    }

    static void promise23_thatHadNothing() {
        yard().same("lose(0)", 0).row(0, 2, 7).due("lose(0)", 1).same("lose(0)", 0);
    }

    static void promise23_anEmptyRowIsSomething() {
        yard().row(0, 2).due("lose(0)", 1).same("lose(0)", 0).faulted("put(0, 0, 0)", NULL);
    }

    static void promise23_otherSheetsStay() {
        holds(yard().row(0, 2, 5).row(1, 2, 6).due("lose(0)", 1), 1, 2, 6);
    }

    static void promise23_namesNoFault() {
        yard().row(0, 2, 7).faulted("put(0, 1, 0)", INDEX).due("lose(0)", 1).due("fault()", 3)
            .due("lose(0)", 0).due("fault()", 3).due("lose(4)", UNKNOWN).due("fault()", 3);
    }

    static void promise23_theSeaStays() {
        yard().sea(THREE).due("lose(0)", 1).due("many(0)", 3).due("ofShip(2, 2)", 5);
    }

    // ---- 24 put

    static void promise24_sheets0To3() {
        for (int k = 0; k < 4; k++) {
            yard().row(k, 2, 7).due("put(" + k + ", 0, 8)", 1)
                .same("cell(" + k + ", 0, 2)", 8);
        }
        for (String k : NO_SHEETS) {
            yard().row(0, 2, 7).row(3, 2, 7).refused("put(" + k + ", 0, 8)", UNKNOWN)
                .refused("put(" + k + ", -1, 8)", UNKNOWN);
        }
    }

    static void promise24_onNothing() {
        yard().faulted("put(0, 0, 8)", NULL).row(0, 2, 7).due("put(0, 0, 8)", 1).due("lose(0)", 1)
            .faulted("put(0, 0, 8)", NULL);
    }

    static void promise24_nullGoesAheadOfIndex() {
        yard().faulted("put(0, -1, 8)", NULL).row(0, 2, 7).faulted("put(0, -1, 8)", INDEX);
    }

    static void promise24_cellsThatThereAre() {
        Yard x = yard().row(0, 2, 7, 7, 7).due("put(0, 0, 1)", 1).due("put(0, 2, 3)", 1)
            .faulted("put(0, 3, 4)", INDEX).faulted("put(0, -1, 4)", INDEX)
            .faulted("put(0, MIN, 4)", INDEX).faulted("put(0, MAX, 4)", INDEX);
        holds(x, 0, 2, 1, 7, 3);
        yard().row(0, 2).faulted("put(0, 0, 4)", INDEX);
        yard().due("sheet(0, 2, 60)", 1).due("put(0, 59, 4)", 1).faulted("put(0, 60, 4)", INDEX);
        // A cell that only a longer row had is not there.
        yard().row(0, 2, 7, 7, 7).row(0, 2, 7).faulted("put(0, 1, 4)", INDEX);
    }

    private static void cut(int lane, String v, int want) {
        yard().due("sheet(0, " + lane + ", 3)", 1).due("put(0, 1, " + v + ")", 1)
            .due("fault()", 0).same("cell(0, 1, " + lane + ")", want)
            .same("cell(0, 0, " + lane + ")", 0).same("cell(0, 2, " + lane + ")", 0);
    }

    static void promise24_cutToBytes() {
        cut(0, "127", 127);
        cut(0, "128", -128);
        cut(0, "-128", -128);
        cut(0, "-129", 127);
        cut(0, "255", -1);
        cut(0, "256", 0);
        cut(0, "-256", 0);
        cut(0, "MAX", -1);
        cut(0, "MIN", 0);
    }

    static void promise24_cutToShorts() {
        cut(1, "128", 128);
        cut(1, "32767", 32767);
        cut(1, "32768", -32768);
        cut(1, "-32768", -32768);
        cut(1, "-32769", 32767);
        cut(1, "65535", -1);
        cut(1, "65536", 0);
        cut(1, "MAX", -1);
        cut(1, "MIN", 0);
    }

    static void promise24_intsStay() {
        cut(2, "32768", 32768);
        cut(2, "65536", 65536);
        cut(2, "MAX", Integer.MAX_VALUE);
        cut(2, "MIN", Integer.MIN_VALUE);
    }

    static void promise24_faultIs0Then() {
        yard().row(0, 2, 7).faulted("put(0, 1, 8)", INDEX).due("fault()", 3)
            .due("put(4, 1, 8)", UNKNOWN).due("fault()", 0).faulted("put(1, 1, 8)", NULL)
            .due("put(0, 0, 8)", 1).due("fault()", 0);
    }

    static void promise24_theSeaStays() {
        yard().sea(THREE).due("put(0, 1, 57)", 1).due("rough(0)", 0);
    }

    // ---- 25 cell

    static void promise25_sheets0To3() {
        for (int k = 0; k < 4; k++) {
            yard().row(k, 2, 7).same("cell(" + k + ", 0, 2)", 7);
        }
        for (String k : NO_SHEETS) {
            yard().row(0, 2, 7).row(3, 2, 7).refused("cell(" + k + ", 0, 2)", UNKNOWN)
                .refused("cell(" + k + ", -1, 3)", UNKNOWN);
        }
    }

    static void promise25_lanes0To2() {
        for (int lane = 0; lane < 3; lane++) {
            yard().row(0, lane, 7).same("cell(0, 0, " + lane + ")", 7);
        }
        for (String lane : NO_LANES) {
            yard().row(0, 2, 7).refused("cell(0, 0, " + lane + ")", OUTSIDE);
        }
    }

    static void promise25_outsideGoesAheadOfFaults() {
        yard().refused("cell(0, 0, 3)", OUTSIDE).row(0, 2, 7).refused("cell(0, 1, 3)", OUTSIDE)
            .faulted("cell(0, 1, 2)", INDEX);
    }

    static void promise25_castByAnotherLane() {
        for (int lane = 0; lane < 3; lane++) {
            Yard x = yard().row(0, lane, 7);
            for (int as = 0; as < 3; as++) {
                if (as != lane) {
                    x.faulted("cell(0, 0, " + as + ")", CAST);
                }
            }
        }
        yard().row(0, 2).faulted("cell(0, 0, 1)", CAST).faulted("cell(0, 0, 2)", INDEX);
    }

    static void promise25_nothingIsNoCast() {
        for (int lane = 0; lane < 3; lane++) {
            yard().faulted("cell(0, 0, " + lane + ")", NULL).row(0, 1, 7).due("lose(0)", 1)
                .faulted("cell(0, 0, " + lane + ")", NULL);
        }
    }

    static void promise25_castAndNullGoAheadOfIndex() {
        yard().faulted("cell(0, -1, 2)", NULL).row(0, 2, 7).faulted("cell(0, -1, 1)", CAST)
            .faulted("cell(0, -1, 2)", INDEX);
    }

    static void promise25_cellsThatThereAre() {
        yard().row(0, 2, 7, 8, 9).same("cell(0, 0, 2)", 7).same("cell(0, 2, 2)", 9)
            .faulted("cell(0, 3, 2)", INDEX).faulted("cell(0, -1, 2)", INDEX)
            .faulted("cell(0, MIN, 2)", INDEX).faulted("cell(0, MAX, 2)", INDEX);
        yard().row(0, 2).faulted("cell(0, 0, 2)", INDEX);
        yard().due("sheet(0, 2, 60)", 1).same("cell(0, 59, 2)", 0)
            .faulted("cell(0, 60, 2)", INDEX);
        yard().row(0, 2, 7, 8, 9).row(0, 2, 7).faulted("cell(0, 1, 2)", INDEX);
    }

    static void promise25_theLeastNumberIsNoLost() {
        yard().row(0, 2, Integer.MIN_VALUE).same("cell(0, 0, 2)", Integer.MIN_VALUE)
            .due("fault()", 0);
    }

    static void promise25_faultIs0Then() {
        yard().row(0, 2, 7).faulted("cell(0, 1, 2)", INDEX).due("fault()", 3)
            .due("cell(4, 0, 2)", YardNames.LOST).due("fault()", 0)
            .faulted("cell(0, 0, 1)", CAST).due("cell(0, 0, 3)", YardNames.LOST)
            .due("fault()", 0).faulted("cell(1, 0, 1)", NULL).due("cell(0, 0, 2)", 7)
            .due("fault()", 0);
    }

    // ---- 26 copy

    private static Yard five() {
        return yard().row(0, 2, 1, 2, 3, 4, 5).row(1, 2, 6, 7, 8);
    }

    static void promise26_sheets0To3() {
        for (int k = 0; k < 4; k++) {
            int other = 3 - k;
            Yard x = yard().row(k, 2, 5).row(other, 2, 6);
            holds(x.due("copy(" + k + ", 0, " + other + ", 0, 1)", 1), other, 2, 5);
        }
        for (String k : NO_SHEETS) {
            five().refused("copy(" + k + ", 0, 1, 0, 1)", UNKNOWN)
                .refused("copy(0, 0, " + k + ", 0, 1)", UNKNOWN);
        }
    }

    static void promise26_unknownGoesAheadOfFaults() {
        five().refused("copy(4, -1, 3, 0, -1)", UNKNOWN).refused("copy(3, -1, 4, 0, -1)", UNKNOWN)
            .faulted("copy(3, -1, 0, 0, -1)", NULL);
    }

    static void promise26_nothingOfTheFirstOrTheOther() {
        five().faulted("copy(3, 0, 1, 0, 1)", NULL).faulted("copy(0, 0, 3, 0, 1)", NULL)
            .faulted("copy(3, 0, 3, 0, 0)", NULL).faulted("copy(2, 0, 3, 0, 0)", NULL)
            .faulted("copy(0, 9, 3, 9, -1)", NULL);
        // A row that is lost is nothing, of whichever lane it was.
        five().due("lose(1)", 1).faulted("copy(0, 0, 1, 0, 1)", NULL);
        five().row(1, 0, 1).due("lose(1)", 1).faulted("copy(0, 0, 1, 0, 1)", NULL);
    }

    static void promise26_castOfUnlikeLanes() {
        for (int lane = 0; lane < 3; lane++) {
            for (int other = 0; other < 3; other++) {
                Yard x = yard().row(0, lane, 5).row(1, other, 6);
                if (lane == other) {
                    x.due("copy(0, 0, 1, 0, 1)", 1).same("cell(1, 0, " + other + ")", 5);
                } else {
                    x.faulted("copy(0, 0, 1, 0, 1)", CAST).faulted("copy(0, 0, 1, 0, 0)", CAST);
                }
            }
        }
    }

    static void promise26_castGoesAheadOfIndex() {
        yard().row(0, 2, 5).row(1, 1, 6).faulted("copy(0, -1, 1, 0, 1)", CAST)
            .faulted("copy(0, 0, 1, 9, 1)", CAST).faulted("copy(0, 0, 1, 0, -1)", CAST);
    }

    static void promise26_iFrom0ToTheEnd() {
        five().faulted("copy(0, -1, 1, 0, 1)", INDEX).faulted("copy(0, 5, 1, 0, 1)", INDEX)
            .faulted("copy(0, MIN, 1, 0, 1)", INDEX).faulted("copy(0, MAX, 1, 0, 1)", INDEX)
            .faulted("copy(0, 3, 1, 0, 3)", INDEX);
        holds(five().due("copy(0, 4, 1, 0, 1)", 1), 1, 2, 5, 7, 8);
        holds(five().due("copy(0, 0, 1, 0, 1)", 1), 1, 2, 1, 7, 8);
        holds(five().due("copy(0, 2, 1, 0, 3)", 3), 1, 2, 3, 4, 5);
    }

    static void promise26_jFrom0ToTheEnd() {
        five().faulted("copy(0, 0, 1, -1, 1)", INDEX).faulted("copy(0, 0, 1, 3, 1)", INDEX)
            .faulted("copy(0, 0, 1, MIN, 1)", INDEX).faulted("copy(0, 0, 1, MAX, 1)", INDEX)
            .faulted("copy(0, 0, 1, 1, 3)", INDEX);
        holds(five().due("copy(0, 0, 1, 2, 1)", 1), 1, 2, 6, 7, 1);
        holds(five().due("copy(0, 0, 1, 1, 2)", 2), 1, 2, 6, 1, 2);
    }

    static void promise26_nBelow0IsIndex() {
        five().faulted("copy(0, 0, 1, 0, -1)", INDEX).faulted("copy(0, 5, 1, 3, -1)", INDEX)
            .faulted("copy(0, 0, 1, 0, MIN)", INDEX).same("copy(0, 0, 1, 0, 0)", 0);
    }

    static void promise26_nBeyondEither() {
        five().faulted("copy(0, 0, 1, 0, 4)", INDEX).faulted("copy(1, 0, 0, 0, 4)", INDEX)
            .faulted("copy(0, 0, 0, 0, 6)", INDEX).faulted("copy(0, 0, 1, 0, MAX)", INDEX);
        holds(five().due("copy(0, 0, 1, 0, 3)", 3), 1, 2, 1, 2, 3);
        holds(five().due("copy(1, 0, 0, 2, 3)", 3), 0, 2, 1, 2, 6, 7, 8);
    }

    static void promise26_sumsThatWrap() {
        five().faulted("copy(0, MAX, 1, 0, MAX)", INDEX).faulted("copy(0, 1, 1, 1, MAX)", INDEX)
            .faulted("copy(0, MIN, 1, MIN, MIN)", INDEX)
            .faulted("copy(0, 0, 1, MAX, MAX)", INDEX);
    }

    static void promise26_noneFrom0ToTheEnd() {
        five().same("copy(0, 0, 1, 0, 0)", 0).same("copy(0, 5, 1, 3, 0)", 0)
            .faulted("copy(0, 6, 1, 0, 0)", INDEX).faulted("copy(0, 0, 1, 4, 0)", INDEX)
            .faulted("copy(0, -1, 1, 0, 0)", INDEX).faulted("copy(0, 0, 1, -1, 0)", INDEX);
        yard().row(0, 2).row(1, 2).same("copy(0, 0, 1, 0, 0)", 0)
            .faulted("copy(0, 0, 1, 0, 1)", INDEX).faulted("copy(0, 1, 1, 0, 0)", INDEX);
    }

    static void promise26_ofOneSheetAsTheyWere() {
        holds(five().due("copy(0, 0, 0, 1, 4)", 4), 0, 2, 1, 1, 2, 3, 4);
        holds(five().due("copy(0, 1, 0, 0, 4)", 4), 0, 2, 2, 3, 4, 5, 5);
        holds(five().due("copy(0, 0, 0, 2, 3)", 3), 0, 2, 1, 2, 1, 2, 3);
        five().same("copy(0, 0, 0, 0, 5)", 5).same("copy(0, 5, 0, 5, 0)", 0)
            .faulted("copy(0, 0, 0, 1, 5)", INDEX);
    }

    static void promise26_allOf60() {
        Yard x = yard().due("sheet(0, 0, 60)", 1).due("sheet(1, 0, 60)", 1).due("put(0, 0, 3)", 1)
            .due("put(0, 59, 4)", 1).due("copy(0, 0, 1, 0, 60)", 60);
        x.same("cell(1, 0, 0)", 3).same("cell(1, 59, 0)", 4).same("cell(1, 58, 0)", 0);
    }

    static void promise26_theFirstStays() {
        Yard x = five().due("copy(0, 0, 1, 0, 3)", 3).due("put(1, 0, 99)", 1);
        holds(x, 0, 2, 1, 2, 3, 4, 5);
    }

    static void promise26_faultIs0Then() {
        five().faulted("copy(0, 0, 1, 0, 4)", INDEX).due("copy(0, 0, 4, 0, 1)", UNKNOWN)
            .due("fault()", 0).faulted("copy(0, 0, 3, 0, 1)", NULL)
            .due("copy(0, 0, 1, 0, 1)", 1).due("fault()", 0);
    }

    // ---- 27 tell

    static void promise27_shipsThatThereAre() {
        yard().sea(THREE).due("tell(0)", 3).due("tell(2)", 110).refused("tell(3)", UNKNOWN)
            .refused("tell(-1)", UNKNOWN).refused("tell(MIN)", UNKNOWN)
            .refused("tell(MAX)", UNKNOWN);
        yard().refused("tell(0)", UNKNOWN).due("trace()", 0);
    }

    static void promise27_leastAndMostStrength() {
        yard().sea("y00;b0000000;c0000000;s0000000").due("tell(0)", 0).due("tell(1)", 100)
            .due("tell(2)", 100);
        yard().sea("y00;b0900000;c0900000;s0900000").due("tell(0)", 9).due("tell(1)", 109)
            .due("tell(2)", 118);
    }

    static void promise27_bodiesAsTheyBegin() {
        yard().sea(THREE).due("tell(0)", 3).due("trace()", 1);
        yard().sea(THREE).due("tell(1)", 104).due("trace()", 2 * 31 + 1);
        // SLOOP, CUTTER, its BARGE, and BARGE once more with CUTTER left out.
        yard().sea(THREE).due("tell(2)", 110).due("trace()", ((3 * 31 + 2) * 31 + 1) * 31 + 1);
    }

    static void promise27_namesNoFault() {
        yard().sea(THREE).faulted("put(3, 0, 0)", NULL).due("tell(0)", 3).due("fault()", 1)
            .due("tell(3)", UNKNOWN).due("fault()", 1);
    }

    static void promise27_onlyTraceChanges() {
        yard().sea(THREE).due("tell(2)", 110).due("tell(2)", 110).due("ofShip(2, 2)", 5)
            .due("ofShip(2, 1)", 3).due("many(2)", 0);
    }

    // ---- 28 hail

    static void promise28_shipsThatThereAre() {
        yard().sea(THREE).due("hail(0)", 2).due("hail(2)", 60).refused("hail(3)", UNKNOWN)
            .refused("hail(-1)", UNKNOWN).refused("hail(MIN)", UNKNOWN)
            .refused("hail(MAX)", UNKNOWN);
        yard().refused("hail(0)", UNKNOWN).due("trace()", 0);
    }

    static void promise28_lentBodyOrItsOwn() {
        for (int g = 0; g < 4; g++) {
            yard().sea("y00;b" + g + "000000").due("hail(0)", g).due("trace()", 4);
            yard().sea("y00;c" + g + "000000").due("hail(0)", g).due("trace()", 4);
            yard().sea("y00;s" + g + "000000").due("hail(0)", 60).due("trace()", 5);
        }
    }

    static void promise28_byTheNameItHasNow() {
        yard().sea(THREE).due("name(0, 3)", 2).due("hail(0)", 3).due("name(2, 0)", 3)
            .due("hail(2)", 60);
    }

    static void promise28_namesNoFault() {
        yard().sea(THREE).faulted("put(3, 0, 0)", NULL).due("hail(0)", 2).due("fault()", 1)
            .due("hail(3)", UNKNOWN).due("fault()", 1);
    }

    // ---- 29 as

    static void promise29_shipsThatThereAre() {
        yard().sea(THREE).same("as(2, 0)", 1).refused("as(3, 0)", UNKNOWN)
            .refused("as(-1, 0)", UNKNOWN).refused("as(MIN, 0)", UNKNOWN)
            .refused("as(MAX, 0)", UNKNOWN);
        yard().refused("as(0, 0)", UNKNOWN);
    }

    static void promise29_kinds0To2() {
        yard().sea(THREE).same("as(2, 0)", 1).same("as(2, 2)", 1).refused("as(2, 3)", OUTSIDE)
            .refused("as(2, -1)", OUTSIDE).refused("as(2, MIN)", OUTSIDE)
            .refused("as(2, MAX)", OUTSIDE);
    }

    static void promise29_unknownGoesAheadOfOutside() {
        yard().sea(THREE).refused("as(3, 3)", UNKNOWN).refused("as(0, 3)", OUTSIDE);
    }

    static void promise29_castIfItIsNone() {
        yard().sea(THREE).same("as(0, 0)", 1).faulted("as(0, 1)", CAST).faulted("as(0, 2)", CAST)
            .same("as(1, 0)", 1).same("as(1, 1)", 1).faulted("as(1, 2)", CAST)
            .same("as(2, 0)", 1).same("as(2, 1)", 1).same("as(2, 2)", 1);
    }

    static void promise29_faultIs0Then() {
        yard().sea(THREE).faulted("as(0, 1)", CAST).due("fault()", 2).due("as(3, 1)", UNKNOWN)
            .due("fault()", 0).faulted("as(0, 1)", CAST).due("as(0, 3)", OUTSIDE)
            .due("fault()", 0).faulted("as(0, 1)", CAST).due("as(1, 1)", 1).due("fault()", 0);
    }

    // ---- 30 trace

    static void promise30_0AtFirst() {
        yard().same("trace()", 0);
        yard().sea(THREE).same("trace()", 0);
    }

    static void promise30_wrapsAround() {
        // Six hailings of SLOOPS are below 2 to the 31st, the seventh is beyond it.
        Yard x = yard().sea(THREE);
        long exact = 0;
        for (int n = 1; n <= 8; n++) {
            exact = exact * 31 + 5;
            C.due("hailing " + n + " is beyond an int", exact > Integer.MAX_VALUE ? 1 : 0,
                n >= 7 ? 1 : 0);
            x.due("hail(2)", 60).same("trace()", (int) exact);
        }
    }

    static void promise30_becomes31TimesItAndTheNumber() {
        yard().sea(THREE).due("tell(0)", 3).due("hail(1)", 1).same("trace()", 31 + 4)
            .due("hail(2)", 60).same("trace()", (31 + 4) * 31 + 5);
    }

    static void promise30_aRefusedCallLeavesNone() {
        yard().sea(THREE).due("tell(0)", 3).due("tell(3)", UNKNOWN).due("hail(-1)", UNKNOWN)
            .due("as(0, 1)", -12).same("trace()", 1);
    }

    static void promise30_asTheyAreUpToThe512thCall() {
        Yard x = yard().sea(THREE);
        int trace = 0;
        // A sheet, 30 puts and a sea were 32 calls; trace() is the 512th.
        for (int n = 0; n < 479; n++) {
            x.due("hail(0)", 2);
            trace = 31 * trace + 4;
        }
        x.due("trace()", trace);
    }

    // ---- 31 fault

    static void promise31_0AheadOfAny() {
        yard().same("fault()", 0).due("many(0)", 0).due("lose(4)", UNKNOWN).due("days(1)", STATE)
            .same("fault()", 0);
    }

    static void promise31_eachFault() {
        yard().row(0, 2, 7).faulted("put(1, 0, 0)", NULL).same("fault()", 1)
            .faulted("cell(0, 0, 0)", CAST).same("fault()", 2).faulted("put(0, 1, 0)", INDEX)
            .same("fault()", 3).faulted("sheet(0, 0, -1)", SIZE).same("fault()", 4);
    }

    static void promise31_staysUntilACallThatNamesOne() {
        Yard x = yard().sea(THREE).faulted("put(3, 0, 0)", NULL);
        String[] namingNone = {"ofShip(0, 0)", "rough(0)", "blow(0, 1)", "name(0, 1)",
            "days(1)", "load(0, 0, 1)", "off(0, 0, 1)", "keeps(0)", "harbour(0, 1, 0)",
            "stow(0, 1, 1, 0)", "cover()", "reading(0, 0, 0)", "back(1)", "strengths(0)",
            "kinds(0)", "odds(0, 0, 0)", "premium(0, 0)", "lose(2)", "tell(0)", "hail(0)",
            "trace()", "many(0)"};
        int[] want = {0, 0, 0, 2, 0, 1, 0, 0, 0, 0, 5, 0, 0, 1023, 7, 0, 0, 0, 3, 1, 35, 3};
        for (int n = 0; n < namingNone.length; n++) {
            x.due(namingNone[n], want[n]).same("fault()", 1);
        }
    }

    static void promise31_refusedCallsThatNameNoneLeaveIt() {
        Yard x = yard().sea(THREE).faulted("put(3, 0, 0)", NULL);
        x.refused("ofShip(3, 0)", UNKNOWN).refused("rough(2)", UNKNOWN)
            .refused("blow(2, 0)", UNKNOWN).refused("name(3, 0)", UNKNOWN)
            .refused("days(0)", OUTSIDE).refused("load(0, 0, 0)", OUTSIDE)
            .refused("off(0, 0, 1)", STATE).refused("keeps(3)", UNKNOWN)
            .refused("harbour(0, 31, 0)", OUTSIDE).refused("stow(0, 31, 0, 0)", OUTSIDE)
            .refused("reading(0, 0, 2)", OUTSIDE).refused("back(1)", OUTSIDE)
            .refused("strengths(3)", UNKNOWN).refused("kinds(3)", UNKNOWN)
            .refused("odds(3, 0, 0)", UNKNOWN).refused("premium(3, 0)", UNKNOWN)
            .refused("lose(4)", UNKNOWN).refused("tell(3)", UNKNOWN).refused("hail(3)", UNKNOWN)
            .refused("many(5)", OUTSIDE).due("load(0, 0, 9)", 9).refused("load(0, 0, 1)", FULL)
            .same("fault()", 1);
    }

    static void promise31_0BehindAnAnswer() {
        String[] fine = {"sea(0, 0, 0, 30)", "sea(0, 0, 0, 29)", "voyage(0, 0, 0, 0, 0)",
            "names(1, 2, 0, 0, 0)", "sheet(2, 0, 5)", "put(0, 0, 121)", "cell(0, 0, 0)",
            "copy(0, 0, 0, 0, 3)", "as(0, 0)"};
        int[] want = {3, -129, 0, 15, 1, 1, 121, 3, 1};
        for (int n = 0; n < fine.length; n++) {
            yard().sea(THREE).row(1, 2, 0, 0, 0, 0).faulted("put(3, 0, 0)", NULL)
                .due(fine[n], want[n]).same("fault()", 0);
        }
    }

    static void promise31_0BehindARefusal() {
        String[] refused = {"sea(4, 0, 0, 30)", "voyage(4, 0, 0, 0, 0)", "names(4, 2, 0, 0, 0)",
            "sheet(4, 0, 5)", "put(4, 0, 121)", "copy(0, 0, 4, 0, 3)", "as(3, 0)"};
        for (String call : refused) {
            yard().sea(THREE).faulted("put(3, 0, 0)", NULL).refused(call, UNKNOWN)
                .due("fault()", 0);
        }
        yard().faulted("put(3, 0, 0)", NULL).refused("cell(4, 0, 0)", UNKNOWN).due("fault()", 0);
        yard().row(0, 0).faulted("put(3, 0, 0)", NULL).refused("voyage(0, 0, 0, 0, 0)", STATE)
            .due("fault()", 0);
    }

    static void promise31_itIsNotUsedUp() {
        yard().faulted("put(3, 0, 0)", NULL).due("fault()", 1).due("fault()", 1);
    }

    static void promise31_aTakenSeaMakesItNone() {
        yard().sea(THREE).faulted("put(3, 0, 0)", NULL).due("sea(0, 0, 0, 30)", 3)
            .due("fault()", 0);
    }

    // ---- 32 many

    static void promise32_whats() {
        yard().sea("y1234;b0001000;c1000000").due("days(3)", 1).due("reading(0, 0, 0)", 0)
            .same("many(0)", 2).same("many(1)", 4).same("many(2)", 3).same("many(3)", 2)
            .same("many(4)", 1).refused("many(5)", OUTSIDE).refused("many(-1)", OUTSIDE)
            .refused("many(MIN)", OUTSIDE).refused("many(MAX)", OUTSIDE);
    }

    static void promise32_0AllWithoutASea() {
        Yard x = yard().row(0, 2, 7);
        for (int what = 0; what <= 4; what++) {
            x.same("many(" + what + ")", 0);
        }
        x.refused("many(5)", OUTSIDE).refused("many(-1)", OUTSIDE);
    }

    static void promise32_fewestAndMost() {
        yard().sea("y00;b0000000").same("many(0)", 1).same("many(1)", 2).same("many(3)", 1);
        yard().sea("y000000;b0000000;b0001000;b0000000;b0000000;b0000000").same("many(0)", 5)
            .same("many(1)", 6).same("many(3)", 4).due("off(1, 0, 1)", 0).same("many(3)", 5);
    }

    static void promise32_daysGoOn() {
        Yard x = yard().sea("y00;b0000000").same("many(2)", 0);
        for (int n = 1; n <= 10; n++) {
            x.due("days(30)", 0).same("many(2)", 30 * n);
        }
        x.due("days(31)", OUTSIDE).same("many(2)", 300);
    }

    static void promise32_whoAreMet() {
        yard().sea("y99;b0001000;b1000000").same("many(3)", 1).due("days(1)", 1)
            .same("many(3)", 2).due("load(0, 0, 1)", 1).same("many(3)", 1)
            .due("load(1, 1, 1)", 1).same("many(3)", 0).due("name(0, 3)", 0).same("many(3)", 1);
    }

    static void promise32_from0To8Readings() {
        Yard x = yard().sea("y00;b0000000").same("many(4)", 0);
        for (int n = 1; n <= 8; n++) {
            x.due("reading(0, 0, 0)", n - 1).same("many(4)", n);
        }
        x.due("reading(0, 0, 0)", FULL).same("many(4)", 8).due("back(3)", 5).same("many(4)", 5);
    }
}
