/** Promises 1 to 6: a new object, sea, ofShip, rough, blow, name. */
public final class SeaTest {
    private static final Checks C = new Checks("SeaTest");

    public static void main(String[] args) {
        newObject();
        takenTexts();
        firstFaults();
        everyCutTextEndsTooSoon();
        everyForeignCodeIsFoundWhereItStands();
        refusalsAndFaultsOfSea();
        takenTextMakesAllAnew();
        partOfASheetAndOtherLanes();
        ofShip();
        roughAndBlow();
        name();
        C.end();
    }

    private static void newObject() {
        YardNames x = new YardNames();
        for (int what = 0; what <= 4; what++) {
            C.due("many(" + what + ") of a new one", x.many(what), 0);
        }
        C.due("trace", x.trace(), 0);
        C.due("fault", x.fault(), 0);
        for (int k = 0; k < 4; k++) {
            C.due("lose(" + k + ") of a new one", x.lose(k), 0);
            C.due("put(" + k + ") of a new one", x.put(k, 0, 0), -11);
        }
        C.due("rough", x.rough(0), YardNames.UNKNOWN);
        C.due("ofShip", x.ofShip(0, 0), YardNames.UNKNOWN);
    }

    private static int sea(String text) {
        return Checks.withText(text).sea(0, 0, 0, text.length());
    }

    private static void takenTexts() {
        C.due("least text", sea("y00;b0000000"), 1);
        C.due("six ports", sea("y123456;s3950000"), 1);
        C.due("two ships", sea("y99;b3919999;c0000000"), 2);
        C.due("five ships, six ports",
            sea("y987654;b0000000;c1110000;s2220000;b3330000;c0440000"), 5);
    }

    private static void firstFaults() {
        String[] texts = {"", "Y", "y", "y1", "y1;", "y12", "y12b", "y1234567", "y123456:", "y12;",
            "y12;a", "y12;B", "y12;b4", "y12;b:", "y12;b3:", "y12;b39", "y12;b392", "y123;b392",
            "y123456;b396", "y12;b390", "y12;b390000/", "y12;b3900009", "y12;b39000099",
            "y12;b3900009b", "y12;b3900009;", "y/2", "y:2", "y1 2", "z12;b0000000",
            "y11;b0000000;b0000000;b0000000;b0000000;b0000000;",
            "y11;b0000000;b0000000;b0000000;b0000000;b00000000",
            "y11;b0000000;b0000000;b0000000;b0000000;b000000"};
        int[] places = {0, 0, 1, 2, 2, 3, 3, 7, 7, 4,
            4, 4, 5, 5, 6, 7, 7, 9,
            11, 8, 11, -1, 12,
            12, 13, 1, 1, 2, 0,
            48, 48, 47};
        for (int t = 0; t < texts.length; t++) {
            if (places[t] >= 0) {
                C.due("sea by " + texts[t], sea(texts[t]), -100 - places[t]);
            } else {
                C.due("sea by " + texts[t], sea(texts[t]), 1);
            }
        }
    }

    private static void everyCutTextEndsTooSoon() {
        for (int n = 0; n < Checks.SEA.length(); n++) {
            boolean whole = n > 5 && (n - 5) % 9 == 0;
            int want = whole ? (n - 5) / 9 : -100 - n;
            C.due("first " + n + " codes", sea(Checks.SEA.substring(0, n)), want);
            YardNames x = Checks.withText(Checks.SEA);
            C.due("first " + n + " cells", x.sea(0, 0, 0, n), want);
        }
    }

    private static void everyForeignCodeIsFoundWhereItStands() {
        for (int place = 0; place < Checks.SEA.length(); place++) {
            for (int code : new int[] {-128, -9, 0, 47, 58, 60, 97, 122, 127}) {
                YardNames x = Checks.withText(Checks.SEA);
                x.put(0, place, code);
                C.due("code " + code + " at " + place, x.sea(0, 0, 0, 41), -100 - place);
                C.due("fault of a text is none", x.fault(), 0);
                C.due("no sea by it", x.many(0), 0);
            }
        }
    }

    private static void refusalsAndFaultsOfSea() {
        YardNames x = Checks.withText(Checks.SEA);
        x.sheet(1, 1, 5);
        x.sheet(2, 0, 0);
        C.due("sheet 4, lane 3", x.sea(4, 3, 0, 41), YardNames.UNKNOWN);
        C.due("sheet -1", x.sea(-1, 0, 0, 41), YardNames.UNKNOWN);
        C.due("lane 3 of nothing", x.sea(3, 3, 0, 41), YardNames.OUTSIDE);
        C.due("lane -1", x.sea(0, -1, 0, 41), YardNames.OUTSIDE);
        C.faulted(x, "cast, ahead of size", x.sea(0, 1, 0, -1), 2);
        C.faulted(x, "cast of shorts", x.sea(1, 2, 0, 5), 2);
        C.faulted(x, "nothing, ahead of size", x.sea(3, 2, 0, -1), 1);
        C.faulted(x, "size, ahead of index", x.sea(0, 0, 42, -1), 4);
        C.faulted(x, "size at the edge of int", x.sea(0, 0, 0, Integer.MIN_VALUE), 4);
        C.faulted(x, "a cell too many", x.sea(0, 0, 0, 42), 3);
        C.faulted(x, "a cell too far", x.sea(0, 0, 1, 41), 3);
        C.faulted(x, "from -1 on", x.sea(0, 0, -1, 41), 3);
        C.faulted(x, "none from -1 on", x.sea(0, 0, -1, 0), 3);
        C.faulted(x, "none from 42 on", x.sea(0, 0, 42, 0), 3);
        C.faulted(x, "a sum that wraps", x.sea(0, 0, 41, Integer.MAX_VALUE), 3);
        C.faulted(x, "a sum that wraps", x.sea(0, 0, Integer.MAX_VALUE, Integer.MAX_VALUE), 3);
        C.due("none from 41 on", x.sea(0, 0, 41, 0), -100);
        C.due("and it is no fault", x.fault(), 0);
        C.due("none of an empty row", x.sea(2, 0, 0, 0), -100);
        C.faulted(x, "one of an empty row", x.sea(2, 0, 0, 1), 3);
        C.due("refused after a fault", x.sea(9, 0, 0, 0), YardNames.UNKNOWN);
        C.due("fault() of a refused one", x.fault(), 0);
        C.due("still no sea", x.many(0), 0);
        C.due("then a sea", x.sea(0, 0, 0, 41), 4);
    }

    private static void takenTextMakesAllAnew() {
        YardNames x = Checks.withSea(Checks.SEA);
        x.days(3);
        x.reading(0, 0, 0);
        x.tell(2);
        int trace = x.trace();
        x.blow(0, 9);
        x.put(0, 0, 'x');
        C.due("a wrong text", x.sea(0, 0, 0, 41), -100);
        C.due("day is kept by a wrong text", x.many(2), 3);
        C.due("readings are kept by a wrong text", x.many(4), 1);
        C.due("rough is kept by a wrong text", x.rough(0), 9);
        String other = "y86;c1212345";
        Checks.putText(x, 1, other);
        C.due("another sea", x.sea(1, 0, 0, other.length()), 1);
        C.due("ships", x.many(0), 1);
        C.due("ports", x.many(1), 2);
        C.due("day", x.many(2), 0);
        C.due("readings", x.many(4), 0);
        C.due("rough 0", x.rough(0), 8);
        C.due("rough 1", x.rough(1), 6);
        C.due("no port 2", x.rough(2), YardNames.UNKNOWN);
        C.due("no ship 1", x.ofShip(1, 0), YardNames.UNKNOWN);
        C.due("kind", x.ofShip(0, 0), 1);
        C.due("trace stays", x.trace(), trace);
        C.due("sheet 0 stays", x.cell(0, 1, 0), '3');
    }

    private static void partOfASheetAndOtherLanes() {
        for (int lane = 0; lane < 3; lane++) {
            YardNames x = new YardNames();
            x.sheet(3, lane, 60);
            String text = "y25;s1610203";
            for (int i = 0; i < text.length(); i++) {
                x.put(3, 48 + i, text.charAt(i));
            }
            C.due("from 48 on", x.sea(3, lane, 48, 12), 1);
            C.due("its rough", x.rough(1), 5);
            C.due("its strength", x.ofShip(0, 2), 6);
            C.due("its port", x.ofShip(0, 4), 1);
            C.due("good 1", x.ofShip(0, 11), 2);
            C.due("good 3", x.ofShip(0, 13), 3);
            x.put(3, 48, 121 + 256);
            // In a row of bytes the code is cut to y, in the others it stays another one.
            C.due("a cut code", x.sea(3, lane, 48, 12), lane == 0 ? 1 : -100);
        }
    }

    private static void ofShip() {
        YardNames x = Checks.withSea("y3725;b2911230;c0900312;s1932040;b2025000;s3000000");
        int[][] want = {{0, 2, 9, 9, 1, 0, 14, 6}, {1, 0, 9, 10, 0, 1, 17, 6},
            {2, 1, 9, 18, 3, 1, 14, 6}, {0, 2, 0, 0, 2, 1, 5, 5}, {2, 3, 0, 0, 0, 1, 0, 0}};
        int[][] goods = {{1, 2, 3, 0}, {0, 3, 1, 2}, {2, 0, 4, 0}, {5, 0, 0, 0}, {0, 0, 0, 0}};
        for (int k = 0; k < 5; k++) {
            for (int what = 0; what < 8; what++) {
                C.due("ofShip(" + k + ", " + what + ")", x.ofShip(k, what), want[k][what]);
            }
            for (int g = 0; g < 4; g++) {
                C.due("good " + g + " of " + k, x.ofShip(k, 10 + g), goods[k][g]);
            }
            for (int what : new int[] {8, 9, 14}) {
                C.due("ofShip(" + k + ", " + what + ")", x.ofShip(k, what), YardNames.OUTSIDE);
            }
            for (int what : Checks.WILD) {
                C.due("ofShip(" + k + ", " + what + ")", x.ofShip(k, what), YardNames.OUTSIDE);
            }
        }
        C.due("no ship 5", x.ofShip(5, 99), YardNames.UNKNOWN);
        for (int k : Checks.WILD) {
            C.due("ofShip(" + k + ", 0)", x.ofShip(k, 0), YardNames.UNKNOWN);
        }
    }

    private static void roughAndBlow() {
        YardNames x = Checks.withSea(Checks.SEA);
        C.due("blow 0", x.blow(1, 0), 7);
        C.due("blow 9", x.blow(1, 9), 0);
        C.due("rough", x.rough(1), 9);
        C.due("blow 10", x.blow(1, 10), YardNames.OUTSIDE);
        C.due("blow -1", x.blow(1, -1), YardNames.OUTSIDE);
        C.due("rough stays", x.rough(1), 9);
        C.due("others stay", x.rough(0) * 100 + x.rough(2) * 10 + x.rough(3), 325);
        C.due("no port 4", x.blow(4, 10), YardNames.UNKNOWN);
        for (int wild : Checks.WILD) {
            C.due("rough(" + wild + ")", x.rough(wild), YardNames.UNKNOWN);
            C.due("blow(" + wild + ", 1)", x.blow(wild, 1), YardNames.UNKNOWN);
            C.due("blow(0, " + wild + ")", x.blow(0, wild), YardNames.OUTSIDE);
        }
        C.due("a way that was blown is gone on", x.days(1), 3);
    }

    private static void name() {
        YardNames x = Checks.withSea(Checks.SEA);
        C.due("not met", x.ofShip(0, 5), 0);
        C.due("name 3", x.name(0, 3), 2);
        C.due("is 3", x.ofShip(0, 1), 3);
        C.due("met by it", x.ofShip(0, 5), 1);
        C.due("name 0", x.name(0, 0), 3);
        C.due("name 4", x.name(0, 4), YardNames.OUTSIDE);
        C.due("is 0", x.ofShip(0, 1), 0);
        C.due("others stay", x.ofShip(3, 1), 2);
        C.due("no ship 4", x.name(4, 4), YardNames.UNKNOWN);
        for (int wild : Checks.WILD) {
            C.due("name(" + wild + ", 0)", x.name(wild, 0), YardNames.UNKNOWN);
            C.due("name(0, " + wild + ")", x.name(0, wild), YardNames.OUTSIDE);
        }
    }
}
