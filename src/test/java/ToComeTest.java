/** Promises 11 to 14: keeps, harbour, stow, cover. */
public final class ToComeTest {
    private static final Checks C = new Checks("ToComeTest");

    public static void main(String[] args) {
        keeps();
        harbour();
        stow();
        stowRefusals();
        cover();
        C.end();
    }

    private static void keeps() {
        YardNames x = Checks.withSea("y00009;b0009000;b0405000;b0906000;b0000999;b0006000");
        C.due("met on the 41st day only", x.keeps(0), YardNames.NONE);
        C.due("5 pieces, a rough day in 5", x.keeps(1), 25);
        C.due("all is borne", x.keeps(2), YardNames.NONE);
        C.due("met now", x.keeps(3), 0);
        C.due("on the 30th day", x.keeps(4), 30);
        x.days(1);
        C.due("a day nearer", x.keeps(4), 29);
        x.load(4, 0, 1);
        C.due("one more: too late", x.keeps(4), YardNames.NONE);
        x.off(4, 0, 7);
        C.due("none left", x.keeps(4), 0);
        C.due("at once, then each sixth day", keepsOf("y000009;b0055000"), 25);
        C.due("on the 31st day: too late", keepsOf("y000009;b0056000"), YardNames.NONE);
        C.due("on the 30th day", keepsOf("y000009;b0005000"), 30);
        C.due("no ship 5", x.keeps(5), YardNames.UNKNOWN);
        C.due("keeps tells days that are not gone", x.many(2), 1);
        for (int wild : Checks.WILD) {
            C.due("keeps(" + wild + ")", x.keeps(wild), YardNames.UNKNOWN);
        }
    }

    private static int keepsOf(String text) {
        return Checks.withSea(text).keeps(0);
    }

    private static void harbour() {
        YardNames x = Checks.withSea("y9090;b0011111");
        String before = Checks.seen(x);
        C.due("0 days: the least", x.harbour(0, 0, 0), 0);
        C.due("1 day: a calm way", x.harbour(0, 1, 0), 1);
        C.due("nothing is lost", x.harbour(0, 1, 1), 0);
        C.due("2 days: all alike", x.harbour(0, 2, 0), 0);
        C.due("a piece of its name", x.harbour(0, 2, 1), 1);
        C.due("3 days", x.harbour(0, 3, 0), 1);
        C.due("one of them", x.harbour(0, 3, 1), 1);
        C.due("30 days: all is lost", x.harbour(0, 30, 1), 10);
        C.due("nothing is changed", Checks.seen(x).equals(before) ? 1 : 0, 1);
        x = Checks.withSea("y553335;c3301213");
        C.due("the last three ways", x.harbour(0, 3, 0), 2);
        C.due("worth of goods 3 alone", x.harbour(0, 5, 1), 8);
        C.due("n 31", x.harbour(0, 31, 0), YardNames.OUTSIDE);
        C.due("n -1", x.harbour(0, -1, 0), YardNames.OUTSIDE);
        C.due("what 2", x.harbour(0, 0, 2), YardNames.OUTSIDE);
        C.due("what -1", x.harbour(0, 0, -1), YardNames.OUTSIDE);
        C.due("no ship 1", x.harbour(1, 31, 2), YardNames.UNKNOWN);
        for (int wild : Checks.WILD) {
            C.due("harbour(" + wild + ")", x.harbour(wild, 0, 0), YardNames.UNKNOWN);
            C.due("harbour n " + wild, x.harbour(0, wild, 0), YardNames.OUTSIDE);
            C.due("harbour what " + wild, x.harbour(0, 0, wild), YardNames.OUTSIDE);
        }
    }

    private static void stowed(YardNames x, int n, int pieces, int... want) {
        int[] whats = {0, 1, 10, 11, 12, 13};
        for (int w = 0; w < whats.length; w++) {
            C.due("stow(0, " + n + ", " + pieces + ", " + whats[w] + ")",
                x.stow(0, n, pieces, whats[w]), want[w]);
        }
    }

    private static void stow() {
        YardNames x = Checks.withSea("y99;b2000000");
        String before = Checks.seen(x);
        stowed(x, 0, 0, 0, 0, 0, 0, 0, 0);
        // No day goes by: nothing is lost, so what is of the most worth.
        stowed(x, 0, 12, 0, 45, 0, 0, 3, 9);
        // None of the name: the least good goes, so one of it and the most worth.
        stowed(x, 1, 5, 1, 16, 1, 0, 0, 4);
        stowed(x, 2, 5, 2, 12, 2, 0, 0, 3);
        // All goes: 9 of good 0, 3 of good 1.
        stowed(x, 30, 12, 15, 0, 9, 3, 0, 0);
        stowed(x, 30, 1, 1, 0, 1, 0, 0, 0);
        C.due("nothing is changed", Checks.seen(x).equals(before) ? 1 : 0, 1);
        // Named after good 0: it goes first, but no more of it than there is.
        x.name(0, 0);
        stowed(x, 3, 12, 3, 36, 3, 0, 0, 9);
        // The way behind the port where it is now counts, not the first one.
        x = Checks.withSea("y90;c0311111;b0000000");
        stowed(x, 1, 3, 0, 12, 0, 0, 0, 3);
        stowed(x, 2, 3, 1, 8, 1, 0, 0, 2);
        stowed(x, 4, 12, 2, 39, 2, 0, 1, 9);
    }

    private static void stowRefusals() {
        YardNames x = Checks.withSea("y90;c0311111");
        C.due("n 31", x.stow(0, 31, 0, 0), YardNames.OUTSIDE);
        C.due("n -1", x.stow(0, -1, 0, 0), YardNames.OUTSIDE);
        C.due("n 30", x.stow(0, 30, 12, 13), 0);
        C.due("13 pieces", x.stow(0, 0, 13, 0), YardNames.OUTSIDE);
        C.due("-1 pieces", x.stow(0, 0, -1, 0), YardNames.OUTSIDE);
        for (int what : new int[] {-1, 2, 9, 14}) {
            C.due("what " + what, x.stow(0, 0, 0, what), YardNames.OUTSIDE);
        }
        C.due("no ship 1", x.stow(1, 31, 13, 2), YardNames.UNKNOWN);
        for (int wild : Checks.WILD) {
            C.due("stow(" + wild + ")", x.stow(wild, 0, 0, 0), YardNames.UNKNOWN);
            C.due("stow n " + wild, x.stow(0, wild, 0, 0), YardNames.OUTSIDE);
            C.due("stow pieces " + wild, x.stow(0, 0, wild, 0), YardNames.OUTSIDE);
            C.due("stow what " + wild, x.stow(0, 0, 0, wild), YardNames.OUTSIDE);
        }
    }

    private static void cover() {
        C.due("no sea", new YardNames().cover(), YardNames.STATE);
        C.due("one name", coverOf("1"), 1);
        C.due("one name, five ships", coverOf("33333"), 1);
        C.due("all names", coverOf("01233"), 15);
        C.due("the last two", coverOf("00012"), 25);
        C.due("first of each", coverOf("21212"), 3);
        C.due("four of five", coverOf("30012"), 27);
    }

    private static int coverOf(String names) {
        StringBuilder text = new StringBuilder("y00");
        for (int k = 0; k < names.length(); k++) {
            text.append(";b").append(names.charAt(k)).append("000000");
        }
        return Checks.withSea(text.toString()).cover();
    }
}
