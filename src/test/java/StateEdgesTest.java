/** Promises 2 to 32: what a call changes of an object in which all is at hand, and nothing else. */
public final class StateEdgesTest {
    private static final Checks C = new Checks("StateEdgesTest");

    public static void main(String[] args) {
        C.runPromises(StateEdgesTest.class);
    }

    /**
     * Day 1; three readings, all of them so; ship 0 is in port 1, ship 1 in 2, ship 2 in 3; sheet 0
     * has the text, 1 shorts, 2 ints (a voyage), 3 nothing; trace() is 63, fault() 1.
     */
    private static Yard busy() {
        return new Yard(C).sea("y4915;b0403210;c1410521;s2220033").row(1, 1, 300, -7, 5)
            .row(2, 2, 1, 8, 0, 4, 0, 0).due("days(1)", 1).due("reading(0, 1, 1)", 0)
            .due("reading(1, 2, 0)", 1).due("reading(2, 3, 1)", 2).due("tell(1)", 104)
            .due("put(3, 0, 0)", -11);
    }

    static void promise02_changesTheSeaAlone() {
        busy().changes("sea(0, 0, 0, 32)", 3, "many(2)", "many(4)", "ofShip(0, 4)", "ofShip(1, 4)",
            "ofShip(2, 4)", "ofShip(1, 11)", "strengths(0)", "strengths(2)", "fault()");
        busy().changes("sea(0, 0, 0, 31)", -131, "fault()");
        busy().changes("sea(0, 0, 0, 33)", -13, "fault()");
        busy().changes("sea(3, 0, 0, 32)", -11);
    }

    static void promise03_changesNothing() {
        for (int k = 0; k < 3; k++) {
            busy().changes("ofShip(" + k + ", 2)", k < 2 ? 4 : 2);
        }
        busy().changes("ofShip(3, 2)", -1);
    }

    static void promise04_changesNothing() {
        busy().changes("rough(1)", 9);
        busy().changes("rough(4)", -1);
    }

    static void promise05_changesOneWay() {
        busy().changes("blow(0, 9)", 4, "rough(0)");
        // No ship lost there on 2: the reading of ship 0 is so of a weaker one alone.
        busy().changes("blow(1, 2)", 9, "rough(1)", "strengths(0)", "strengths(1)", "strengths(2)",
            "kinds(0)", "kinds(1)", "kinds(2)");
        busy().changes("blow(1, 10)", -2);
    }

    static void promise06_changesOneName() {
        busy().changes("name(0, 3)", 0, "ofShip(0, 1)", "many(3)");
        busy().changes("name(2, 3)", 2, "ofShip(2, 1)");
        busy().changes("name(2, 4)", -2);
    }

    static void promise07_changesPortsPiecesAndTheDay() {
        busy().changes("days(1)", 2, "many(2)", "ofShip(0, 4)", "ofShip(1, 4)", "ofShip(2, 4)",
            "ofShip(0, 10)", "ofShip(2, 12)");
        // Four days round the ring: all are where they were.
        busy().changes("days(4)", 5, "many(2)", "ofShip(0, 10)", "ofShip(1, 11)", "ofShip(2, 12)");
        busy().changes("days(31)", -2);
    }

    static void promise08_changesOneGood() {
        busy().changes("load(1, 0, 9)", 9, "ofShip(1, 10)");
        busy().changes("load(1, 1, 6)", -4);
    }

    static void promise09_changesOneGood() {
        busy().changes("off(1, 3, 1)", 0, "ofShip(1, 13)");
        busy().changes("off(0, 0, 3)", 0, "ofShip(0, 10)", "many(3)");
        busy().changes("off(1, 3, 2)", -3);
    }

    static void promise10_changesNothing() {
        int[] whats = {0, 1, 2, 3, 4, 10, 11, 12, 13};
        int[] want = {2, -9, 0, 4, 0, 9, 18, 18, -9};
        for (int w = 0; w < whats.length; w++) {
            busy().changes("voyage(2, 2, 0, 3, " + whats[w] + ")", want[w], "fault()");
        }
        busy().changes("voyage(2, 2, 2, 2, 0)", 0, "fault()");
        busy().changes("voyage(2, 2, 0, 4, 0)", -13, "fault()");
        busy().changes("voyage(1, 1, 0, 1, 0)", -2, "fault()");
    }

    static void promise11_changesNothing() {
        busy().changes("keeps(0)", 5);
        busy().changes("keeps(3)", -1);
    }

    static void promise12_changesNothing() {
        busy().changes("harbour(0, 30, 1)", 10);
        busy().changes("harbour(0, 1, 0)", 0);
        busy().changes("harbour(0, 31, 0)", -2);
    }

    static void promise13_changesNothing() {
        busy().changes("stow(2, 2, 3, 0)", 1);
        busy().changes("stow(2, 2, 13, 0)", -2);
    }

    static void promise14_changesNothing() {
        busy().changes("cover()", 7);
    }

    static void promise15_changesReadings() {
        busy().changes("reading(1, 0, 0)", 3, "many(4)", "strengths(1)");
        busy().changes("reading(1, 0, 2)", -2);
    }

    static void promise16_changesReadings() {
        busy().changes("back(1)", 2, "many(4)", "strengths(2)");
        busy().changes("back(0)", 3);
        busy().changes("back(4)", -2);
    }

    static void promise17_changesNothing() {
        busy().changes("strengths(0)", 511);
        busy().changes("strengths(3)", -1);
    }

    static void promise18_changesNothing() {
        busy().changes("kinds(0)", 7);
        busy().changes("kinds(3)", -1);
    }

    static void promise19_changesNothing() {
        busy().changes("names(2, 2, 2, 0, 0)", 0, "fault()");
        busy().changes("names(2, 2, 3, 0, 0)", -13, "fault()");
        busy().changes("names(2, 1, 0, 0, 0)", -12, "fault()");
    }

    static void promise20_changesNothing() {
        busy().changes("odds(0, 0, 1)", 2);
        busy().changes("odds(0, 0, 2)", YardNames.LOST);
    }

    static void promise21_changesNothing() {
        busy().changes("premium(2, 0)", 3);
        busy().changes("premium(0, 2)", YardNames.LOST);
    }

    static void promise22_changesOneSheet() {
        busy().changes("sheet(1, 2, 2)", 1, "cell(1, 0, 1)", "cell(1, 1, 1)", "cell(1, 2, 1)",
            "cell(1, 0, 2)", "cell(1, 1, 2)", "fault()");
        busy().changes("sheet(3, 0, 1)", 1, "cell(3, 0, 0)", "fault()");
        busy().changes("sheet(1, 2, 61)", -2, "fault()");
        busy().changes("sheet(1, 2, -1)", -14, "fault()");
    }

    static void promise23_changesOneSheet() {
        busy().changes("lose(1)", 1, "cell(1, 0, 1)", "cell(1, 1, 1)", "cell(1, 2, 1)");
        busy().changes("lose(3)", 0);
        busy().changes("lose(4)", -1);
    }

    static void promise24_changesOneCell() {
        busy().changes("put(1, 1, 9)", 1, "cell(1, 1, 1)", "fault()");
        busy().changes("put(1, 3, 9)", -13, "fault()");
        busy().changes("put(4, 1, 9)", -1, "fault()");
    }

    static void promise25_changesNothing() {
        busy().changes("cell(1, 1, 1)", -7, "fault()");
        busy().changes("cell(1, 1, 0)", YardNames.LOST, "fault()");
        busy().changes("cell(1, 1, 3)", YardNames.LOST, "fault()");
    }

    static void promise26_changesCellsOfTheOther() {
        busy().changes("copy(2, 0, 2, 1, 3)", 3, "cell(2, 1, 2)", "cell(2, 2, 2)", "cell(2, 3, 2)",
            "fault()");
        busy().changes("copy(2, 0, 2, 1, 6)", -13, "fault()");
        busy().changes("copy(2, 0, 1, 1, 1)", -12, "fault()");
    }

    static void promise27_changesTrace() {
        busy().changes("tell(0)", 4, "trace()");
        busy().changes("tell(3)", -1);
    }

    static void promise28_changesTrace() {
        busy().changes("hail(2)", 60, "trace()");
        busy().changes("hail(3)", -1);
    }

    static void promise29_changesNothing() {
        busy().changes("as(2, 1)", 1, "fault()");
        busy().changes("as(1, 2)", -12, "fault()");
        busy().changes("as(1, 3)", -2, "fault()");
    }

    static void promise30_changesNothing() {
        busy().changes("trace()", 63);
    }

    static void promise31_changesNothing() {
        busy().changes("fault()", 1);
    }

    static void promise32_changesNothing() {
        int[] want = {3, 4, 1, 0, 3};
        for (int what = 0; what <= 4; what++) {
            busy().changes("many(" + what + ")", want[what]);
        }
        busy().changes("many(5)", -2);
    }
}
