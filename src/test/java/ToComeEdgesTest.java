/** The boundary cases of promises 11 to 14: keeps, harbour, stow, cover. */
public final class ToComeEdgesTest {
    private static final Checks C = new Checks("ToComeEdgesTest");
    private static final int UNKNOWN = YardNames.UNKNOWN, OUTSIDE = YardNames.OUTSIDE;
    private static final int STATE = YardNames.STATE, NONE = YardNames.NONE;

    public static void main(String[] args) {
        C.runPromises(ToComeEdgesTest.class);
    }

    private static Yard sea(String text) {
        return new Yard(C).sea(text);
    }

    private static Yard yard() {
        return new Yard(C);
    }

    // ---- 11 keeps

    static void promise11_shipsThatThereAre() {
        sea("y99;b0003000").same("keeps(0)", 3).refused("keeps(1)", UNKNOWN)
            .refused("keeps(-1)", UNKNOWN).refused("keeps(MIN)", UNKNOWN)
            .refused("keeps(MAX)", UNKNOWN);
        sea("y99;b0001000;b0002000;b0003000;b0004000;b0005000").same("keeps(4)", 5)
            .refused("keeps(5)", UNKNOWN);
        yard().refused("keeps(0)", UNKNOWN);
    }

    static void promise11_0IfItIsMetNow() {
        sea("y99;b0000999").same("keeps(0)", 0).due("load(0, 0, 1)", 1).same("keeps(0)", 1)
            .due("off(0, 0, 1)", 0).same("keeps(0)", 0);
        // Even where nothing is too rough for it.
        sea("y00;b0900999").same("keeps(0)", 0);
    }

    static void promise11_behind30DaysJustYet() {
        // Rough behind port 5 alone: a fifth piece goes on the 30th day from port 0 on.
        sea("y000009;b0005000").same("keeps(0)", 30);
        // From port 5 on the sixth goes on the 31st day, the fifth on the 25th.
        sea("y000009;b0056000").same("keeps(0)", NONE);
        sea("y000009;b0055000").same("keeps(0)", 25);
        // From port 1 on the sixth goes on the 35th day; from port 4 on on the 32nd.
        sea("y000009;b0016000").same("keeps(0)", NONE);
        sea("y000009;b0046000").same("keeps(0)", NONE);
    }

    static void promise11_the31stDayComesNearer() {
        sea("y000009;b0056000").same("keeps(0)", NONE).due("days(1)", 1).same("keeps(0)", 30)
            .due("days(1)", 0).same("keeps(0)", 29);
    }

    static void promise11_noneIfAllIsBorne() {
        sea("y99;b0901000;b0801000").same("keeps(0)", NONE).same("keeps(1)", 1);
        sea("y67;c0601000;c0501000").same("keeps(0)", NONE).same("keeps(1)", 2);
        sea("y67;s0401000;s0301000").same("keeps(0)", NONE).same("keeps(1)", 2);
    }

    static void promise11_fromThePortWhereItIs() {
        sea("y0009;b0001000;b0011000;b0021000;b0031000").same("keeps(0)", 4)
            .same("keeps(1)", 3).same("keeps(2)", 2).same("keeps(3)", 1);
    }

    static void promise11_otherGoodsAreNotAskedFor() {
        sea("y99;b3009991;b1009192").same("keeps(0)", 1).same("keeps(1)", 1)
            .due("name(1, 3)", 1).same("keeps(1)", 2);
    }

    static void promise11_mostPieces() {
        sea("y99;b0009000").same("keeps(0)", 9);
        sea("y009;b0009000;b0028000").same("keeps(0)", 27).same("keeps(1)", 22);
        sea("y0009;b0008000;b0007000").same("keeps(0)", NONE).same("keeps(1)", 28);
    }

    // ---- 12 harbour

    static void promise12_shipsThatThereAre() {
        sea("y90;b0001000").same("harbour(0, 1, 0)", 1).refused("harbour(1, 1, 0)", UNKNOWN)
            .refused("harbour(-1, 1, 0)", UNKNOWN).refused("harbour(MIN, 1, 0)", UNKNOWN)
            .refused("harbour(MAX, 1, 0)", UNKNOWN);
        yard().refused("harbour(0, 0, 0)", UNKNOWN);
    }

    static void promise12_from0To30Days() {
        sea("y90;b0009999").same("harbour(0, 0, 0)", 0).same("harbour(0, 0, 1)", 0)
            .same("harbour(0, 1, 0)", 1).same("harbour(0, 1, 1)", 0)
            .same("harbour(0, 29, 0)", 1).same("harbour(0, 29, 1)", 19)
            .same("harbour(0, 30, 0)", 0).same("harbour(0, 30, 1)", 21)
            .refused("harbour(0, 31, 0)", OUTSIDE).refused("harbour(0, -1, 0)", OUTSIDE)
            .refused("harbour(0, MIN, 1)", OUTSIDE).refused("harbour(0, MAX, 1)", OUTSIDE);
    }

    static void promise12_whats() {
        sea("y99;b0001000").same("harbour(0, 1, 0)", 0).same("harbour(0, 1, 1)", 1)
            .refused("harbour(0, 1, 2)", OUTSIDE).refused("harbour(0, 1, -1)", OUTSIDE)
            .refused("harbour(0, 1, MIN)", OUTSIDE).refused("harbour(0, 1, MAX)", OUTSIDE);
    }

    static void promise12_unknownGoesAheadOfOutside() {
        sea("y99;b0001000").refused("harbour(1, 31, 2)", UNKNOWN)
            .refused("harbour(0, 31, 2)", OUTSIDE);
    }

    static void promise12_ofSeveralPortsTheLeast() {
        // One calm way: from port 2 and from port 3 on one piece is lost in two days.
        sea("y9990;b0009000").same("harbour(0, 1, 0)", 3).same("harbour(0, 2, 0)", 2)
            .same("harbour(0, 2, 1)", 1).same("harbour(0, 3, 0)", 1)
            .same("harbour(0, 4, 0)", 0).same("harbour(0, 4, 1)", 3);
        sea("y9009;b0009000").same("harbour(0, 1, 0)", 1).same("harbour(0, 2, 0)", 1);
    }

    static void promise12_alikeOnceAllIsLost() {
        // Two rough days or one: it had but a piece, so port 0 is as good as port 2.
        sea("y9990;b0001000").same("harbour(0, 2, 0)", 0).same("harbour(0, 2, 1)", 1)
            .due("load(0, 0, 1)", 2).same("harbour(0, 2, 0)", 2).same("harbour(0, 2, 1)", 1);
        sea("y90;b0009000").same("harbour(0, 29, 0)", 0).same("harbour(0, 29, 1)", 9);
    }

    static void promise12_aShipThatCarriesNothing() {
        sea("y9990;b0030000").same("harbour(0, 30, 0)", 0).same("harbour(0, 30, 1)", 0);
    }

    static void promise12_justAsRoughIsBorne() {
        sea("y56;b0511000;c0411000;b0411000").same("harbour(0, 1, 0)", 0)
            .same("harbour(1, 1, 0)", 0).same("harbour(1, 1, 1)", 0)
            .same("harbour(2, 1, 1)", 1);
        sea("y65;b0501000;c0501000").same("harbour(0, 1, 0)", 1).same("harbour(0, 1, 1)", 0)
            .same("harbour(1, 1, 0)", 0).same("harbour(1, 1, 1)", 0);
    }

    static void promise12_theLastPortAndRoundToPort0() {
        sea("y099990;b0009000").same("harbour(0, 2, 0)", 5).same("harbour(0, 2, 1)", 0)
            .same("harbour(0, 3, 0)", 4).same("harbour(0, 3, 1)", 1);
    }

    static void promise12_whereItIsNowDoesNotCount() {
        sea("y9990;b0039000").same("harbour(0, 2, 0)", 2).due("days(1)", 0)
            .same("harbour(0, 2, 0)", 2).same("harbour(0, 1, 0)", 3);
    }

    static void promise12_worthOfItsNameThenOfTheLeastGoods() {
        sea("y99;b2002110").same("harbour(0, 1, 1)", 3).same("harbour(0, 2, 1)", 4)
            .same("harbour(0, 3, 1)", 5).same("harbour(0, 4, 1)", 7).same("harbour(0, 5, 1)", 7);
    }

    // ---- 13 stow

    private static void stowed(Yard x, String call, int... want) {
        int[] whats = {0, 1, 10, 11, 12, 13};
        for (int w = 0; w < whats.length; w++) {
            x.same("stow(" + call + ", " + whats[w] + ")", want[w]);
        }
    }

    static void promise13_shipsThatThereAre() {
        sea("y99;b0009999").same("stow(0, 1, 1, 0)", 1).refused("stow(1, 1, 1, 0)", UNKNOWN)
            .refused("stow(-1, 1, 1, 0)", UNKNOWN).refused("stow(MIN, 1, 1, 0)", UNKNOWN)
            .refused("stow(MAX, 1, 1, 0)", UNKNOWN);
        yard().refused("stow(0, 0, 0, 0)", UNKNOWN);
    }

    static void promise13_from0To30Days() {
        // A rough day in two, so that 12 pieces are all lost in 24 days, not in 23 from port 1 on.
        Yard x = sea("y90;b0010000");
        stowed(x, "0, 0, 12", 0, 45, 0, 0, 3, 9);
        stowed(x, "0, 1, 12", 0, 45, 0, 0, 3, 9);
        stowed(x, "0, 2, 12", 1, 42, 1, 0, 2, 9);
        stowed(x, "0, 23, 12", 13, 4, 9, 2, 0, 1);
        stowed(x, "0, 24, 12", 15, 0, 9, 3, 0, 0);
        stowed(x, "0, 30, 12", 15, 0, 9, 3, 0, 0);
        x.refused("stow(0, 31, 12, 0)", OUTSIDE).refused("stow(0, -1, 12, 0)", OUTSIDE)
            .refused("stow(0, MIN, 12, 0)", OUTSIDE).refused("stow(0, MAX, 12, 0)", OUTSIDE);
    }

    static void promise13_from0To12Pieces() {
        Yard x = sea("y99;b0009999");
        stowed(x, "0, 1, 0", 0, 0, 0, 0, 0, 0);
        stowed(x, "0, 1, 1", 1, 0, 1, 0, 0, 0);
        stowed(x, "0, 1, 12", 1, 42, 1, 0, 2, 9);
        x.refused("stow(0, 1, 13, 0)", OUTSIDE).refused("stow(0, 1, -1, 0)", OUTSIDE)
            .refused("stow(0, 1, MIN, 0)", OUTSIDE).refused("stow(0, 1, MAX, 0)", OUTSIDE);
    }

    static void promise13_whats() {
        Yard x = sea("y00;b0000000");
        for (String what : new String[] {"-1", "2", "9", "14", "MIN", "MAX", "-10"}) {
            x.refused("stow(0, 0, 0, " + what + ")", OUTSIDE);
        }
        stowed(x, "0, 0, 1", 0, 4, 0, 0, 0, 1);
    }

    static void promise13_unknownGoesAheadOfOutside() {
        sea("y00;b0000000").refused("stow(1, 31, 13, 2)", UNKNOWN)
            .refused("stow(0, 31, 13, 2)", OUTSIDE);
    }

    static void promise13_noMoreThan9OfAGood() {
        Yard x = sea("y00;b0000000");
        stowed(x, "0, 30, 9", 0, 36, 0, 0, 0, 9);
        stowed(x, "0, 30, 10", 0, 39, 0, 0, 1, 9);
        x = sea("y99;b3000000");
        stowed(x, "0, 30, 9", 9, 0, 9, 0, 0, 0);
        stowed(x, "0, 30, 10", 11, 0, 9, 1, 0, 0);
    }

    static void promise13_leastLostGoesAheadOfMostLeft() {
        // Its name is worth most: none of it, so that a piece of good 0 goes.
        Yard x = sea("y99;b3000000");
        stowed(x, "0, 1, 2", 1, 3, 1, 0, 1, 0);
        stowed(x, "0, 1, 12", 1, 31, 1, 2, 9, 0);
        stowed(x, "0, 10, 12", 11, 6, 9, 1, 2, 0);
    }

    static void promise13_mostLeftOfThoseThatLoseLeast() {
        Yard x = sea("y99;b2000000");
        stowed(x, "0, 10, 12", 11, 8, 9, 1, 0, 2);
        x.due("name(0, 0)", 2);
        stowed(x, "0, 3, 12", 3, 36, 3, 0, 0, 9);
        stowed(x, "0, 4, 12", 4, 32, 4, 0, 0, 8);
    }

    static void promise13_asManyRoughDaysAsPieces() {
        Yard x = sea("y99;b1000000");
        stowed(x, "0, 2, 3", 2, 4, 2, 0, 0, 1);
        stowed(x, "0, 3, 3", 3, 0, 3, 0, 0, 0);
        stowed(x, "0, 4, 3", 3, 0, 3, 0, 0, 0);
    }

    static void promise13_fromThePortWhereItIsAndRound() {
        Yard x = sea("y009;b0000000;b0010000;b0020000");
        x.same("stow(0, 2, 1, 0)", 0).same("stow(0, 3, 1, 0)", 1).same("stow(1, 1, 1, 0)", 0)
            .same("stow(1, 2, 1, 0)", 1).same("stow(2, 1, 1, 0)", 1).same("stow(2, 3, 2, 0)", 1)
            .same("stow(2, 4, 2, 0)", 2);
    }

    static void promise13_inPlaceOfWhatItCarries() {
        Yard x = sea("y99;b1009999;b1000000");
        stowed(x, "0, 5, 11", 5, 24, 5, 0, 0, 6);
        stowed(x, "1, 5, 11", 5, 24, 5, 0, 0, 6);
    }

    /** The best of all ways as a row, told as lost, left and pieces, by going day by day. */
    private static int[] bestWay(int named, int roughDays, int pieces) {
        int[] best = null;
        for (int row = 0; row < 10000; row++) {
            int[] way = {row / 1000, row / 100 % 10, row / 10 % 10, row % 10};
            if (way[0] + way[1] + way[2] + way[3] == pieces) {
                int lost = lostOf(way.clone(), named, roughDays);
                int left = way[0] + 2 * way[1] + 3 * way[2] + 4 * way[3] - lost;
                if (best == null || lost < best[0] || lost == best[0] && left > best[1]) {
                    best = new int[] {lost, left, way[0], way[1], way[2], way[3]};
                }
            }
        }
        return best;
    }

    private static int lostOf(int[] carried, int named, int roughDays) {
        int worth = 0;
        for (int d = 0; d < roughDays; d++) {
            int goes = named;
            for (int g = 0; g < 4 && carried[goes] == 0; g++) {
                goes = g;
            }
            if (carried[goes] > 0) {
                carried[goes]--;
                worth += goes + 1;
            }
        }
        return worth;
    }

    static void promise13_theFirstAsARowOfAllThatAreBest() {
        int[] whats = {0, 1, 10, 11, 12, 13};
        for (int named = 0; named < 4; named++) {
            for (int n = 0; n <= 30; n++) {
                Yard x = sea("y99;b" + named + "000000");
                for (int pieces = 0; pieces <= 12; pieces++) {
                    int[] best = bestWay(named, n, pieces);
                    for (int w = 0; w < whats.length; w++) {
                        x.due("stow(0, " + n + ", " + pieces + ", " + whats[w] + ")", best[w]);
                    }
                }
            }
        }
    }

    // ---- 14 cover

    private static Yard named(String names) {
        StringBuilder text = new StringBuilder("y00");
        for (int k = 0; k < names.length(); k++) {
            text.append(";b").append(names.charAt(k)).append("000000");
        }
        return sea(text.toString());
    }

    static void promise14_withoutASea() {
        yard().refused("cover()", STATE);
        named("0").same("cover()", 1);
    }

    static void promise14_oneShipAndOneName() {
        for (int g = 0; g < 4; g++) {
            named("" + g).same("cover()", 1);
            named("" + g + g).same("cover()", 1);
            named("" + g + g + g + g + g).same("cover()", 1);
        }
    }

    static void promise14_allNames() {
        named("0123").same("cover()", 15);
        named("3210").same("cover()", 15);
        named("00123").same("cover()", 29);
        named("01123").same("cover()", 27);
        named("01223").same("cover()", 23);
        named("01233").same("cover()", 15);
    }

    static void promise14_ofSeveralTheLeast() {
        named("22222").same("cover()", 1);
        named("21212").same("cover()", 3);
        named("11112").same("cover()", 17);
        named("11221").same("cover()", 5);
        named("01010").same("cover()", 3);
        named("30003").same("cover()", 3);
    }

    static void promise14_byTheNamesAsTheyAreNow() {
        named("01230").due("cover()", 15).due("name(0, 3)", 0).same("cover()", 23)
            .due("name(4, 3)", 0).same("cover()", 7);
    }

    static void promise14_metOrNotIsNotAskedFor() {
        sea("y99;b0001000;b0000000;b1000000").same("cover()", 5).due("days(1)", 1)
            .same("cover()", 5);
    }
}
