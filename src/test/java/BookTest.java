/** Promises 14 and 15: line and count. */
public final class BookTest {
    private static final Due DUE = new Due("BookTest");

    public static void main(String[] args) {
        linesOfAllKinds();
        linesOfOneLot();
        onlyTheFirstAreKept();
        counts();
        DUE.finish();
    }

    private static void line(DepotMarch march, int k, int... want) {
        for (int what = 0; what < 6; what++) {
            DUE.is("line(" + k + ", " + what + ")", march.line(k, what), want[what]);
        }
    }

    private static void linesOfAllKinds() {
        DepotMarch march = new DepotMarch();
        march.land(5);
        march.days(1);
        march.land(6);
        march.party(2, 9);
        Due.orders(march, 0, "take 7;march;lay 2;");
        march.days(2);
        DUE.is("lines", march.count(3), 8);
        line(march, 0, 0, 0, -1, 0, 0, 5);
        line(march, 1, 0, 1, -1, 0, 1, 6);
        line(march, 2, 1, 1, 0, 0, 0, 5);
        line(march, 3, 1, 1, 0, 0, 1, 2);
        line(march, 4, 3, 1, 0, 1, 0, 2);
        line(march, 5, 2, 2, 0, 1, 0, 2);
        line(march, 6, 3, 2, 0, 1, 0, 1);
        line(march, 7, 3, 2, 0, 1, 1, 1);
        line(march, 8, -1, -1, -1, -1, -1, -1);
        DUE.is("line(-1, 0)", march.line(-1, 0), -1);
        DUE.is("line(0, -1)", march.line(0, -1), -1);
        DUE.is("line(0, 6)", march.line(0, 6), -1);
        DUE.is("line(MAX, 0)", march.line(Integer.MAX_VALUE, 0), -1);
        DUE.is("line(MIN, 0)", march.line(Integer.MIN_VALUE, 0), -1);
        DUE.is("line(0, MAX)", march.line(0, Integer.MAX_VALUE), -1);
    }

    private static void linesOfOneLot() {
        DepotMarch march = new DepotMarch();
        march.party(1, 9);
        march.land(3);
        march.land(1);
        march.land(3);
        Due.orders(march, 0, "take 1;take 1;take 0;take 5;lay 2;lay -1;");
        march.days(1);
        line(march, 3, 1, 0, 0, 0, 0, 1);
        line(march, 4, 1, 0, 0, 0, 0, 1);
        line(march, 5, 1, 0, 0, 0, 0, 1);
        line(march, 6, 1, 0, 0, 0, 1, 1);
        line(march, 7, 1, 0, 0, 0, 2, 3);
        line(march, 8, 2, 0, 0, 0, 0, 2);
        line(march, 9, 3, 0, 0, 0, 0, 1);
        DUE.is("lines", march.count(3), 10);
    }

    private static void onlyTheFirstAreKept() {
        DepotMarch march = new DepotMarch();
        march.party(1, 200);
        march.land(500);
        Due.orders(march, 0, "take 100;while 1{take 1;lay 1;}");
        march.days(5);
        // a day has 300 S: the first has the take too, and each third S asks
        DUE.is("lines", march.count(3), 1 + 1 + 5 * 200 + 5 - 1);
        DUE.is("line(599, 0)", march.line(599, 0) == -1, false);
        DUE.is("line(600, 0)", march.line(600, 0), -1);
        DUE.is("line(700, 5)", march.line(700, 5), -1);
        march.land(1);
        DUE.is("lines", march.count(3), 1 + 1 + 5 * 200 + 5);
    }

    private static void counts() {
        DepotMarch march = new DepotMarch();
        march.party(3, 10);
        march.party(1, 10);
        march.land(12);
        march.land(8);
        Due.orders(march, 0, "take 10;march;lay 1;");
        march.days(2);
        int[] want = {2, 2, 2, 6, 20, 6, 11, 3, 0};
        for (int what = 0; what < want.length; what++) {
            DUE.is("count(" + what + ")", march.count(what), want[what]);
        }
        march.days(1);
        DUE.is("lost", march.count(8), 1);
        DUE.is("count(9)", march.count(9), -1);
        DUE.is("count(-1)", march.count(-1), -1);
        DUE.is("count(MAX)", march.count(Integer.MAX_VALUE), -1);
    }
}
