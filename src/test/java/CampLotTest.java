/** Promises 12 and 13: camp and lot. */
public final class CampLotTest {
    private static final Due DUE = new Due("CampLotTest");

    public static void main(String[] args) {
        camps();
        rowsKeepTheirOrder();
        lots();
        wrong();
        DUE.finish();
    }

    private static DepotMarch twoLots() {
        DepotMarch march = new DepotMarch();
        march.party(1, 12);
        march.party(2, 9);
        march.land(10);
        march.land(20);
        Due.orders(march, 0, "take 12;leave 3;march;lay 11;");
        Due.orders(march, 1, "take 5;rest;take 4;march;");
        march.days(2);
        return march;
    }

    private static void camps() {
        DepotMarch march = twoLots();
        int[][] want = {{9, 3, 0, 1}, {11, -1, 2, 0}, {0, -1, 0, -1}};
        for (int camp = 0; camp < want.length; camp++) {
            for (int what = 0; what < 4; what++) {
                DUE.is("camp(" + camp + ", " + what + ")", march.camp(camp, what), want[camp][what]);
            }
        }
    }

    private static void rowsKeepTheirOrder() {
        DepotMarch march = new DepotMarch();
        march.party(1, 4);
        march.party(1, 1);
        march.land(2);
        march.land(1);
        march.land(5);
        Due.orders(march, 0, "take 4;lay 1;lay 2;");
        march.days(1);
        // the store was 2 2 2 2 behind the take, and got 0, then 0 1; the party ate a 2
        int[] want = {2, 2, 2, 2, 0, 0, 1};
        Due.orders(march, 1, "take 1;");
        for (int lot : want) {
            DUE.is("the first of the store", march.camp(0, 3), lot);
            march.days(1);
            DUE.is("eaten", march.line(march.count(3) - 1, 4), lot);
            Due.orders(march, 1, "take 1;");
        }
        DUE.is("nothing there", march.camp(0, 3), -1);
    }

    private static void lots() {
        DepotMarch march = twoLots();
        int[] first = {10, 9, 0, 1};
        int[] second = {20, 11, 5, 4};
        for (int what = 0; what < 4; what++) {
            DUE.is("lot(0, " + what + ")", march.lot(0, what), first[what]);
            DUE.is("lot(1, " + what + ")", march.lot(1, what), second[what]);
        }
        DUE.is("lot 0 in camp 0", march.lot(0, 10), 0);
        DUE.is("lot 0 in camp 1", march.lot(0, 11), 9);
        DUE.is("lot 1 in camp 0", march.lot(1, 10), 9);
        DUE.is("lot 1 in camp 1", march.lot(1, 11), 2);
        DUE.is("lot 1 in camp 15", march.lot(1, 25), 0);
        DUE.is("lot 1 carried by 0", march.lot(1, 30), 0);
        DUE.is("lot 1 carried by 1", march.lot(1, 31), 5);
        DUE.is("lot 0 eaten by 0", march.lot(0, 40), 1);
        DUE.is("lot 1 eaten by 0", march.lot(1, 40), 0);
        DUE.is("lot 0 eaten by 1", march.lot(0, 41), 0);
        DUE.is("lot 1 eaten by 1", march.lot(1, 41), 4);
    }

    private static void wrong() {
        DepotMarch march = twoLots();
        int[] whats = {-1, 4, 9, 26, 29, 32, 36, 39, 42, 46, Integer.MAX_VALUE, Integer.MIN_VALUE};
        for (int what : whats) {
            DUE.is("lot(0, " + what + ")", march.lot(0, what), -1);
        }
        int[] campWhats = {-1, 4, Integer.MAX_VALUE, Integer.MIN_VALUE};
        for (int what : campWhats) {
            DUE.is("camp(0, " + what + ")", march.camp(0, what), -1);
        }
        int[] numbers = {-1, 20, Integer.MAX_VALUE, Integer.MIN_VALUE};
        for (int number : numbers) {
            DUE.is("lot(" + number + ", 0)", march.lot(number, 0), -1);
            DUE.is("camp(" + number + ", 0)", march.camp(number, 0), -1);
        }
        DUE.is("lot(2, 0)", march.lot(2, 0), -1);
        DUE.is("camp(16, 0)", march.camp(16, 0), -1);
    }
}
