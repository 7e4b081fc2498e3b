/** The boundary cases of promises 1 to 6: a new object, sea, ofShip, rough, blow, name. */
public final class SeaEdgesTest {
    private static final Checks C = new Checks("SeaEdgesTest");
    private static final int UNKNOWN = YardNames.UNKNOWN, OUTSIDE = YardNames.OUTSIDE;
    private static final int STATE = YardNames.STATE;
    private static final int NULL = 1, CAST = 2, INDEX = 3, SIZE = 4;

    /** The shortest TEXT, and the longest one: six ports, five ships, 52 codes. */
    private static final String SHORT = "y25;b1610203";
    private static final String LONG = "y987654;b0000000;c1110001;s2220020;b3330300;c0454000";

    public static void main(String[] args) {
        C.runPromises(SeaEdgesTest.class);
    }

    private static Yard yard() {
        return new Yard(C);
    }

    /** A sea that has gone on, so that a call which changes something shows. */
    private static Yard busy() {
        return yard().sea("y3725;b2311230;c0400312").due("days(2)", 2).due("reading(0, 1, 1)", 0)
            .due("reading(1, 0, 0)", 1).due("blow(2, 8)", 2).due("tell(1)", 104);
    }

    private static String sea(String text) {
        return "sea(0, 0, 0, " + text.length() + ")";
    }

    /** A TEXT that is taken: so many ships. */
    private static void taken(String text, int ships) {
        yard().text(0, text).due(sea(text), ships).due("fault()", 0).due("many(0)", ships);
    }

    /** A TEXT that is not: the place of its FIRST FAULT. */
    private static void wrong(String text, int place) {
        yard().text(0, text).same(sea(text), -100 - place).due("fault()", 0).due("many(0)", 0);
    }

    /** SHORT with another code at a place. */
    private static String with(int place, int code) {
        return SHORT.substring(0, place) + (char) code + SHORT.substring(place + 1);
    }

    // ---- 1 a new object

    static void promise01_noSea() {
        Yard x = yard();
        for (int what = 0; what <= 4; what++) {
            x.same("many(" + what + ")", 0);
        }
        x.same("trace()", 0).same("fault()", 0);
    }

    static void promise01_noPorts() {
        yard().refused("rough(0)", UNKNOWN).refused("rough(-1)", UNKNOWN)
            .refused("blow(0, 0)", UNKNOWN).refused("reading(0, 0, 0)", UNKNOWN);
    }

    static void promise01_noShips() {
        yard().refused("ofShip(0, 0)", UNKNOWN).refused("name(0, 0)", UNKNOWN)
            .refused("load(0, 0, 1)", UNKNOWN).refused("off(0, 0, 1)", UNKNOWN)
            .refused("keeps(0)", UNKNOWN).refused("harbour(0, 0, 0)", UNKNOWN)
            .refused("stow(0, 0, 0, 0)", UNKNOWN).refused("strengths(0)", UNKNOWN)
            .refused("kinds(0)", UNKNOWN).refused("odds(0, 0, 0)", UNKNOWN)
            .refused("premium(0, 0)", UNKNOWN).refused("tell(0)", UNKNOWN)
            .refused("hail(0)", UNKNOWN).refused("as(0, 0)", UNKNOWN);
        yard().row(0, 2, 0, 0, 0, 0).refused("names(0, 2, 0, 0, 0)", UNKNOWN);
    }

    static void promise01_callsThatNeedASea() {
        yard().refused("days(1)", STATE).refused("cover()", STATE);
        yard().row(0, 2).refused("voyage(0, 2, 0, 0, 0)", STATE);
    }

    static void promise01_sheetsHaveNothing() {
        for (int k = 0; k < 4; k++) {
            yard().faulted("put(" + k + ", 0, 0)", NULL).faulted("cell(" + k + ", 0, 0)", NULL)
                .faulted("sea(" + k + ", 0, 0, 0)", NULL).same("lose(" + k + ")", 0)
                .faulted("copy(" + k + ", 0, " + k + ", 0, 0)", NULL);
        }
    }

    static void promise01_objectsShareNothing() {
        busy();
        Yard x = yard().same("many(0)", 0).same("trace()", 0).same("fault()", 0);
        x.faulted("put(0, 0, 0)", NULL);
    }

    // ---- 2 sea: REFUSALS and FAULTS

    static void promise02_sheets0To3() {
        for (int k = 0; k < 4; k++) {
            yard().text(k, SHORT).due("sea(" + k + ", 0, 0, 12)", 1).due("many(0)", 1);
        }
        for (String k : new String[] {"-1", "4", "MIN", "MAX"}) {
            busy().refused("sea(" + k + ", 0, 0, 23)", UNKNOWN);
        }
    }

    static void promise02_lanes0To2() {
        for (int lane = 0; lane < 3; lane++) {
            Yard x = yard().due("sheet(0, " + lane + ", 12)", 1);
            for (int i = 0; i < 12; i++) {
                x.due("put(0, " + i + ", " + (int) SHORT.charAt(i) + ")", 1);
            }
            x.due("sea(0, " + lane + ", 0, 12)", 1).due("ofShip(0, 13)", 3);
        }
        for (String lane : new String[] {"-1", "3", "MIN", "MAX"}) {
            busy().refused("sea(0, " + lane + ", 0, 23)", OUTSIDE);
        }
    }

    static void promise02_unknownGoesAheadOfOutside() {
        busy().refused("sea(4, 3, -1, -1)", UNKNOWN).refused("sea(3, 3, -1, -1)", OUTSIDE);
    }

    static void promise02_outsideGoesAheadOfFaults() {
        busy().refused("sea(0, 3, 0, -1)", OUTSIDE).faulted("sea(0, 2, 0, -1)", CAST);
    }

    static void promise02_castByAnotherLane() {
        for (int lane = 0; lane < 3; lane++) {
            for (int as = 0; as < 3; as++) {
                Yard x = yard().due("sheet(1, " + lane + ", 3)", 1);
                String call = "sea(1, " + as + ", 0, 3)";
                if (as == lane) {
                    x.same(call, -100);
                } else {
                    x.faulted(call, CAST);
                }
            }
        }
    }

    static void promise02_nothingIsNoCast() {
        for (int lane = 0; lane < 3; lane++) {
            String call = "sea(2, " + lane + ", 0, 0)";
            busy().faulted(call, NULL);
            // Nor is it of the lane of a row that is lost.
            busy().row(2, 1, 7).due("lose(2)", 1).faulted(call, NULL);
        }
    }

    static void promise02_castGoesAheadOfSizeAndIndex() {
        busy().faulted("sea(0, 1, 0, -1)", CAST).faulted("sea(0, 1, 24, 0)", CAST)
            .faulted("sea(0, 1, -1, 1)", CAST);
    }

    static void promise02_nullGoesAheadOfSizeAndIndex() {
        busy().faulted("sea(3, 1, 0, -1)", NULL).faulted("sea(3, 1, -1, 1)", NULL);
    }

    static void promise02_lengthBelow0IsSize() {
        busy().faulted("sea(0, 0, 0, -1)", SIZE).faulted("sea(0, 0, 0, MIN)", SIZE)
            .same("sea(0, 0, 0, 0)", -100).same("sea(0, 0, 0, 1)", -101);
    }

    static void promise02_sizeGoesAheadOfIndex() {
        busy().faulted("sea(0, 0, 24, -1)", SIZE).faulted("sea(0, 0, -1, -1)", SIZE)
            .faulted("sea(0, 0, MAX, MIN)", SIZE);
    }

    static void promise02_notAllCellsAreThere() {
        Yard x = yard().text(0, SHORT);
        x.faulted("sea(0, 0, 0, 13)", INDEX).faulted("sea(0, 0, 1, 12)", INDEX)
            .faulted("sea(0, 0, -1, 12)", INDEX).faulted("sea(0, 0, -1, 13)", INDEX)
            .faulted("sea(0, 0, 12, 1)", INDEX).same("sea(0, 0, 11, 1)", -100)
            .due("sea(0, 0, 0, 12)", 1);
    }

    static void promise02_indexOfSumsThatWrap() {
        busy().faulted("sea(0, 0, MAX, 1)", INDEX).faulted("sea(0, 0, 1, MAX)", INDEX)
            .faulted("sea(0, 0, MAX, MAX)", INDEX).faulted("sea(0, 0, MIN, MAX)", INDEX)
            .faulted("sea(0, 0, MIN, 0)", INDEX);
    }

    static void promise02_noneTakenFrom0ToTheEnd() {
        busy().same("sea(0, 0, 0, 0)", -100).same("sea(0, 0, 23, 0)", -100)
            .faulted("sea(0, 0, 24, 0)", INDEX).faulted("sea(0, 0, -1, 0)", INDEX);
    }

    static void promise02_noneOfAnEmptyRow() {
        busy().row(1, 0).same("sea(1, 0, 0, 0)", -100).faulted("sea(1, 0, 1, 0)", INDEX)
            .faulted("sea(1, 0, 0, 1)", INDEX).faulted("sea(1, 0, -1, 0)", INDEX);
    }

    static void promise02_indexGoesAheadOfTheFirstFault() {
        busy().due("put(0, 0, 0)", 1).same("sea(0, 0, 0, 23)", -100)
            .faulted("sea(0, 0, 0, 24)", INDEX);
    }

    // ---- 2 sea: the TEXT

    static void promise02_emptyTextEndsTooSoon() {
        wrong("", 0);
        wrong("y", 1);
    }

    static void promise02_beginsWithY() {
        taken(SHORT, 1);
        for (int code : new int[] {0, 89, 120, 122, 48, 59, 98}) {
            wrong(with(0, code), 0);
        }
    }

    static void promise02_twoToSixPorts() {
        wrong("y;b0000000", 1);
        wrong("y1;b0000000", 2);
        taken("y12;b0000000", 1);
        taken("y123456;b0000000", 1);
        wrong("y1234567;b0000000", 7);
        yard().sea("y12;b0000000").due("many(1)", 2).due("rough(1)", 2).due("rough(2)", UNKNOWN);
        yard().sea("y123456;b0000000").due("many(1)", 6).due("rough(5)", 6)
            .due("rough(6)", UNKNOWN);
    }

    static void promise02_theDigitOfASeventhPort() {
        wrong("y1234567", 7);
        wrong("y123456", 7);
        wrong("y1234560", 7);
    }

    static void promise02_roughIsADigit() {
        for (int place = 1; place <= 2; place++) {
            taken(with(place, 48), 1);
            taken(with(place, 57), 1);
            wrong(with(place, 47), place);
            wrong(with(place, 58), place);
        }
        yard().sea("y09;b0000000").due("rough(0)", 0).due("rough(1)", 9);
        // Behind two digits a third may stand, or the ; of a ship, and nothing else.
        wrong("y12:b0000000", 3);
        wrong("y12/b0000000", 3);
        wrong("y12<b0000000", 3);
    }

    static void promise02_oneToFiveShips() {
        wrong("y12", 3);
        wrong("y123456", 7);
        taken("y12;b0000000", 1);
        taken(LONG, 5);
        wrong("y11;b0000000;b0000000;b0000000;b0000000;b0000000;b0000000", 48);
    }

    static void promise02_theSignOfASixthShip() {
        taken("y11;b0000000;b0000000;b0000000;b0000000;b0000000", 5);
        wrong("y11;b0000000;b0000000;b0000000;b0000000;b0000000;", 48);
        wrong("y11;b0000000;b0000000;b0000000;b0000000;b0000000x", 48);
        wrong(LONG + ";", 52);
        // The sign of a fifth one is none: there the text just ends too soon.
        wrong("y11;b0000000;b0000000;b0000000;b0000000;", 40);
    }

    static void promise02_signOfAShip() {
        wrong(with(3, 58), 3);
        wrong(with(3, 60), 3);
        wrong(SHORT + ":", 12);
        wrong(SHORT + "0", 12);
        wrong(SHORT + "b", 12);
        wrong(SHORT + ";", 13);
    }

    static void promise02_lettersOfKinds() {
        yard().sea(with(4, 98)).due("ofShip(0, 0)", 0);
        yard().sea(with(4, 99)).due("ofShip(0, 0)", 1);
        yard().sea(with(4, 115)).due("ofShip(0, 0)", 2);
        for (int code : new int[] {97, 100, 114, 116, 66, 67, 83, 48, 59, 121}) {
            wrong(with(4, code), 4);
        }
    }

    static void promise02_nameIs0To3() {
        yard().sea(with(5, 48)).due("ofShip(0, 1)", 0);
        yard().sea(with(5, 51)).due("ofShip(0, 1)", 3);
        wrong(with(5, 52), 5);
        wrong(with(5, 57), 5);
        wrong(with(5, 47), 5);
    }

    static void promise02_strengthIs0To9() {
        yard().sea(with(6, 48)).due("ofShip(0, 2)", 0);
        yard().sea(with(6, 57)).due("ofShip(0, 2)", 9);
        wrong(with(6, 47), 6);
        wrong(with(6, 58), 6);
    }

    static void promise02_portIsOneThatThereIs() {
        yard().sea("y12;b0000000").due("ofShip(0, 4)", 0);
        yard().sea("y12;b0010000").due("ofShip(0, 4)", 1);
        wrong("y12;b0020000", 7);
        yard().sea("y123;b0020000").due("ofShip(0, 4)", 2);
        wrong("y123;b0030000", 8);
        yard().sea("y123456;b0050000").due("ofShip(0, 4)", 5);
        wrong("y123456;b0060000", 11);
        wrong("y12;b00/0000", 7);
        wrong("y123456;b00:0000", 11);
        // Each ship's port is held against how many ports there are.
        wrong("y12;b0010000;b0020000", 16);
    }

    static void promise02_piecesAre0To9() {
        for (int g = 0; g < 4; g++) {
            yard().sea(with(8 + g, 48)).due("ofShip(0, " + (10 + g) + ")", 0);
            yard().sea(with(8 + g, 57)).due("ofShip(0, " + (10 + g) + ")", 9);
            wrong(with(8 + g, 47), 8 + g);
            wrong(with(8 + g, 58), 8 + g);
        }
    }

    static void promise02_endsTooSoonAtEachPlace() {
        for (int n = 0; n <= LONG.length(); n++) {
            String text = LONG.substring(0, n);
            if (n > 7 && (n - 7) % 9 == 0) {
                taken(text, (n - 7) / 9);
            } else {
                wrong(text, n);
            }
        }
    }

    static void promise02_onlyNCellsAreTaken() {
        Yard x = yard().text(0, LONG);
        x.same("sea(0, 0, 0, 15)", -115).due("sea(0, 0, 0, 16)", 1).due("many(0)", 1)
            .same("sea(0, 0, 0, 17)", -117).due("many(0)", 1).due("sea(0, 0, 0, 25)", 2)
            .due("many(0)", 2);
    }

    static void promise02_theFirstOfSeveralFaults() {
        wrong("x1", 0);
        wrong("yx", 1);
        wrong("y12;x9", 4);
        wrong("y12;b9x", 5);
        wrong("y1234567;x", 7);
    }

    static void promise02_aWrongCodeAtEachPlaceOfTheLongest() {
        for (int place = 0; place < LONG.length(); place++) {
            wrong(LONG.substring(0, place) + (char) 1 + LONG.substring(place + 1), place);
        }
    }

    static void promise02_codesBeyondAByte() {
        for (int lane = 1; lane < 3; lane++) {
            Yard x = yard().due("sheet(0, " + lane + ", 12)", 1);
            for (int i = 0; i < 12; i++) {
                x.due("put(0, " + i + ", " + (int) SHORT.charAt(i) + ")", 1);
            }
            x.due("put(0, 0, 377)", 1).same("sea(0, " + lane + ", 0, 12)", -100);
            x.due("put(0, 0, 121)", 1).due("put(0, 1, -206)", 1);
            x.same("sea(0, " + lane + ", 0, 12)", -101);
        }
        // Bytes are cut, so that these are a y and a 2.
        yard().text(0, SHORT).due("put(0, 0, 377)", 1).due("put(0, 1, -206)", 1)
            .due("sea(0, 0, 0, 12)", 1).due("rough(0)", 2);
    }

    static void promise02_inTheMiddleOfASheet() {
        Yard x = yard().due("sheet(1, 0, 60)", 1);
        for (int i = 0; i < LONG.length(); i++) {
            x.due("put(1, " + (8 + i) + ", " + (int) LONG.charAt(i) + ")", 1);
        }
        // The place of a fault is counted from the text's own beginning.
        x.same("sea(1, 0, 7, 53)", -100).same("sea(1, 0, 8, 51)", -151)
            .same("sea(1, 0, 9, 51)", -100).faulted("sea(1, 0, 9, 52)", INDEX)
            .due("sea(1, 0, 8, 52)", 5).due("ofShip(4, 10)", 4).due("ofShip(4, 4)", 5);
    }

    static void promise02_aWrongTextChangesNothing() {
        for (int n : new int[] {0, 1, 3, 5, 12, 13, 15, 22}) {
            busy().same("sea(0, 0, 0, " + n + ")", -100 - n).due("many(0)", 2)
                .due("many(2)", 2).due("many(4)", 2).due("rough(2)", 8).due("ofShip(0, 4)", 3);
        }
        // Two ports and a ship would do, but the last code is wrong.
        busy().text(1, "y99;s3919999;b000000x").same("sea(1, 0, 0, 21)", -120)
            .due("many(1)", 4).due("rough(0)", 3).due("ofShip(0, 0)", 0);
    }

    static void promise02_aTakenTextMakesAllAnew() {
        busy().text(1, SHORT).due("sea(1, 0, 0, 12)", 1).due("many(0)", 1).due("many(1)", 2)
            .due("many(2)", 0).due("many(3)", 0).due("many(4)", 0).due("rough(0)", 2)
            .due("rough(1)", 5).due("rough(2)", UNKNOWN).due("ofShip(0, 0)", 0)
            .due("ofShip(0, 1)", 1).due("ofShip(0, 2)", 6).due("ofShip(0, 4)", 1)
            .due("ofShip(0, 10)", 0).due("ofShip(0, 11)", 2).due("ofShip(0, 12)", 0)
            .due("ofShip(0, 13)", 3).due("ofShip(1, 0)", UNKNOWN);
    }

    static void promise02_theSameTextAgainMakesAllAnew() {
        busy().due("sea(0, 0, 0, 23)", 2).due("many(2)", 0).due("many(4)", 0)
            .due("rough(2)", 2).due("ofShip(0, 4)", 1).due("ofShip(0, 12)", 3);
    }

    static void promise02_noReadingsBehindATakenText() {
        busy().due("strengths(0)", 127).due("sea(0, 0, 0, 23)", 2).due("strengths(0)", 1023)
            .refused("back(1)", OUTSIDE).due("back(0)", 0).due("reading(0, 1, 1)", 0);
    }

    static void promise02_aTakenTextLeavesSheetsAndTrace() {
        busy().row(2, 1, 7, -7).due("sea(0, 0, 0, 23)", 2).due("cell(2, 1, 1)", -7)
            .due("cell(0, 0, 0)", 121).due("trace()", 63);
    }

    static void promise02_faultOfATextIsNone() {
        busy().faulted("sea(0, 0, 0, 24)", INDEX).due("fault()", 3).due("sea(0, 0, 0, 22)", -122)
            .due("fault()", 0).faulted("sea(0, 0, 0, -1)", SIZE).due("fault()", 4)
            .due("sea(0, 0, 0, 23)", 2).due("fault()", 0);
    }

    // ---- 3 ofShip

    static void promise03_shipsThatThereAre() {
        yard().sea(SHORT).same("ofShip(0, 2)", 6).refused("ofShip(1, 2)", UNKNOWN)
            .refused("ofShip(-1, 2)", UNKNOWN).refused("ofShip(MIN, 2)", UNKNOWN)
            .refused("ofShip(MAX, 2)", UNKNOWN);
        yard().sea(LONG).same("ofShip(4, 2)", 4).refused("ofShip(5, 2)", UNKNOWN);
    }

    static void promise03_whats() {
        Yard x = yard().sea("y25;s1610203");
        int[] want = {2, 1, 6, 12, 1, 0, 16, 5};
        for (int what = 0; what < 8; what++) {
            x.same("ofShip(0, " + what + ")", want[what]);
        }
        x.same("ofShip(0, 10)", 0).same("ofShip(0, 11)", 2).same("ofShip(0, 12)", 0)
            .same("ofShip(0, 13)", 3);
        for (String what : new String[] {"-1", "8", "9", "14", "MIN", "MAX", "-10"}) {
            x.refused("ofShip(0, " + what + ")", OUTSIDE);
        }
    }

    static void promise03_unknownGoesAheadOfOutside() {
        yard().sea(SHORT).refused("ofShip(1, 8)", UNKNOWN).refused("ofShip(0, 8)", OUTSIDE);
    }

    static void promise03_whatItBears() {
        yard().sea("y25;b0000000;b0900000;c0000000;c0900000").due("ofShip(0, 3)", 0)
            .due("ofShip(1, 3)", 9).due("ofShip(2, 3)", 1).due("ofShip(3, 3)", 10);
        yard().sea("y25;s0000000;s0100000;s0900000").due("ofShip(0, 3)", 0)
            .due("ofShip(1, 3)", 2).due("ofShip(2, 3)", 18);
    }

    static void promise03_metWithNoPieceOfItsName() {
        yard().sea("y99;b2009909").due("ofShip(0, 5)", 1).due("load(0, 2, 1)", 1)
            .due("ofShip(0, 5)", 0).due("days(1)", 1).due("ofShip(0, 5)", 1)
            .due("name(0, 3)", 2).due("ofShip(0, 5)", 0).due("off(0, 3, 8)", 1)
            .due("ofShip(0, 5)", 0).due("off(0, 3, 1)", 0).due("ofShip(0, 5)", 1);
    }

    static void promise03_leastAndMostWorthAndPieces() {
        yard().sea("y00;b0000000;b0009999").due("ofShip(0, 6)", 0).due("ofShip(0, 7)", 0)
            .due("ofShip(1, 6)", 90).due("ofShip(1, 7)", 36);
        yard().sea("y00;b0001000;b0000100;b0000010;b0000001").due("ofShip(0, 6)", 1)
            .due("ofShip(1, 6)", 2).due("ofShip(2, 6)", 3).due("ofShip(3, 6)", 4);
    }

    static void promise03_portBehindTheLastIs0() {
        yard().sea("y123456;b0040000").due("days(1)", 0).due("ofShip(0, 4)", 5)
            .due("days(1)", 0).due("ofShip(0, 4)", 0);
    }

    // ---- 4 rough

    static void promise04_portsThatThereAre() {
        yard().sea("y25;b0000000").same("rough(0)", 2).same("rough(1)", 5)
            .refused("rough(2)", UNKNOWN).refused("rough(-1)", UNKNOWN)
            .refused("rough(MIN)", UNKNOWN).refused("rough(MAX)", UNKNOWN);
        yard().sea(LONG).same("rough(0)", 9).same("rough(5)", 4).refused("rough(6)", UNKNOWN);
    }

    static void promise04_portsOfAnEarlierSeaAreGone() {
        yard().sea(LONG).text(1, SHORT).due("sea(1, 0, 0, 12)", 1).same("rough(1)", 5)
            .refused("rough(2)", UNKNOWN).refused("rough(5)", UNKNOWN);
    }

    // ---- 5 blow

    static void promise05_from0To9() {
        yard().sea(SHORT).due("blow(0, 0)", 2).due("rough(0)", 0).due("blow(0, 9)", 0)
            .due("rough(0)", 9).refused("blow(0, 10)", OUTSIDE).refused("blow(0, -1)", OUTSIDE)
            .refused("blow(0, MIN)", OUTSIDE).refused("blow(0, MAX)", OUTSIDE)
            .due("rough(0)", 9).due("rough(1)", 5);
    }

    static void promise05_portsThatThereAre() {
        yard().sea(SHORT).due("blow(1, 7)", 5).refused("blow(2, 7)", UNKNOWN)
            .refused("blow(-1, 7)", UNKNOWN).refused("blow(MIN, 7)", UNKNOWN)
            .refused("blow(MAX, 7)", UNKNOWN).due("rough(1)", 7).due("rough(0)", 2);
        yard().sea(LONG).due("blow(5, 0)", 4).due("rough(5)", 0).refused("blow(6, 0)", UNKNOWN);
    }

    static void promise05_unknownGoesAheadOfOutside() {
        yard().sea(SHORT).refused("blow(2, 10)", UNKNOWN).refused("blow(1, 10)", OUTSIDE);
    }

    static void promise05_whatItIsAlready() {
        yard().sea(SHORT).same("blow(0, 2)", 2);
    }

    static void promise05_namesNoFault() {
        yard().sea(SHORT).faulted("put(3, 0, 0)", NULL).due("blow(0, 4)", 2).due("fault()", 1);
    }

    static void promise05_daysGoByTheNewWay() {
        // A BARGE of 6 is in port 1, whose way leads round to port 0.
        yard().sea("y25;b1610200").due("blow(1, 6)", 5).due("days(2)", 0).due("blow(1, 7)", 6)
            .due("days(1)", 1).due("ofShip(0, 11)", 1);
    }

    // ---- 6 name

    static void promise06_goods0To3() {
        yard().sea(SHORT).due("name(0, 0)", 1).due("ofShip(0, 1)", 0).due("name(0, 3)", 0)
            .due("ofShip(0, 1)", 3).refused("name(0, 4)", OUTSIDE).refused("name(0, -1)", OUTSIDE)
            .refused("name(0, MIN)", OUTSIDE).refused("name(0, MAX)", OUTSIDE)
            .due("ofShip(0, 1)", 3);
    }

    static void promise06_shipsThatThereAre() {
        yard().sea(SHORT).refused("name(1, 0)", UNKNOWN).refused("name(-1, 0)", UNKNOWN)
            .refused("name(MIN, 0)", UNKNOWN).refused("name(MAX, 0)", UNKNOWN)
            .due("name(0, 2)", 1);
        yard().sea(LONG).due("name(4, 3)", 0).due("ofShip(4, 1)", 3).due("ofShip(3, 1)", 3)
            .due("ofShip(0, 1)", 0).refused("name(5, 3)", UNKNOWN);
    }

    static void promise06_unknownGoesAheadOfOutside() {
        yard().sea(SHORT).refused("name(1, 4)", UNKNOWN).refused("name(0, 4)", OUTSIDE);
    }

    static void promise06_theNameThatItHas() {
        yard().sea(SHORT).same("name(0, 1)", 1);
    }

    static void promise06_namesNoFault() {
        yard().sea(SHORT).faulted("put(3, 0, 0)", NULL).due("name(0, 0)", 1).due("fault()", 1);
    }

    static void promise06_whatGoesFirstByTheNewName() {
        yard().sea("y99;b0001010").due("name(0, 2)", 0).due("days(1)", 1).due("ofShip(0, 12)", 0)
            .due("ofShip(0, 10)", 1).due("many(3)", 1);
    }
}
