/** Promise 10: ahead. */
public final class AheadTest {
    private static final Due DUE = new Due("AheadTest");

    public static void main(String[] args) {
        refused();
        hungerOfOne();
        thoseThatAreLostNow();
        lostAndStores();
        nothingIsChanged();
        DUE.finish();
    }

    private static void refused() {
        DepotMarch march = new DepotMarch();
        int[] wrong = {0, -1, 51, Integer.MAX_VALUE, Integer.MIN_VALUE};
        for (int w : wrong) {
            DUE.is("ahead(" + w + ", 0)", march.ahead(w, 0), -2);
        }
        DUE.is("ahead(1, 3)", march.ahead(1, 3), -2);
        DUE.is("ahead(1, -1)", march.ahead(1, -1), -2);
        DUE.is("no parties", march.ahead(50, 0), -1);
        DUE.is("no parties", march.ahead(50, 1), 0);
        DUE.is("no rations", march.ahead(50, 2), 0);
        for (int i = 0; i < 8; i++) {
            march.days(i == 7 ? 48 : 50);
        }
        DUE.is("day 398", march.count(0), 398);
        DUE.is("ahead(2, 1)", march.ahead(2, 1), 0);
        DUE.is("ahead(3, 1)", march.ahead(3, 1), -2);
    }

    private static void hungerOfOne() {
        DepotMarch march = new DepotMarch();
        march.party(2, 10);
        march.land(8);
        Due.orders(march, 0, "take 10;");
        DUE.is("4 days fed", march.ahead(4, 0), -1);
        DUE.is("hungry on day 4", march.ahead(5, 0), 4);
        DUE.is("the first of them", march.ahead(50, 0), 4);
        march.days(3);
        DUE.is("days keep their numbers", march.ahead(2, 0), 4);
        march.days(3);
        DUE.is("hungry twice", march.tell(0, 4), 2);
        DUE.is("hungry on day 6, and lost then", march.ahead(1, 0), 6);
        DUE.is("lost", march.ahead(1, 1), 1);
        march.land(2);
        Due.orders(march, 0, "take 2;");
        DUE.is("fed on day 6, hungry on day 7", march.ahead(2, 0), 7);
        DUE.is("not lost", march.ahead(3, 1), 0);
        DUE.is("lost on day 9", march.ahead(4, 1), 1);
    }

    private static void thoseThatAreLostNow() {
        DepotMarch march = new DepotMarch();
        march.party(1, 10);
        march.days(3);
        DUE.is("lost", march.tell(0, 5), 1);
        DUE.is("its hunger does not count", march.ahead(10, 0), -1);
        DUE.is("it stays lost", march.ahead(10, 1), 1);
        march.party(1, 10);
        DUE.is("another's does", march.ahead(10, 0), 3);
        DUE.is("both are lost then", march.ahead(3, 1), 2);
        DUE.is("but not yet", march.ahead(2, 1), 1);
    }

    private static void lostAndStores() {
        DepotMarch march = new DepotMarch();
        march.party(1, 20);
        march.land(30);
        Due.orders(march, 0, "take 20;march;lay 10;back;");
        DUE.is("in stores", march.ahead(1, 2), 10);
        DUE.is("in stores", march.ahead(2, 2), 20);
        march.storm(0, true);
        DUE.is("a storm holds it", march.ahead(2, 2), 10);
        DUE.is("in stores", march.ahead(3, 2), 20);
    }

    private static void nothingIsChanged() {
        DepotMarch march = new DepotMarch();
        march.party(1, 20);
        march.land(30);
        Due.orders(march, 0, "take 3;a=a+1;leave 4;march;lay 1;");
        march.days(1);
        Due.put(march, 0, "rest;");
        for (int what = 0; what < 3; what++) {
            march.ahead(50, what);
        }
        DUE.is("day", march.count(0), 1);
        DUE.is("lines", march.count(3), 3);
        DUE.is("camp", march.tell(0, 3), 1);
        DUE.is("food", march.tell(0, 2), 2);
        DUE.is("hunger", march.tell(0, 4), 0);
        DUE.is("counted", march.tell(0, 9), 4);
        DUE.is("letter", march.camp(0, 1), 4);
        DUE.is("store", march.camp(1, 0), 0);
        DUE.is("over", march.tell(0, 8), 0);
        DUE.is("images", march.again(0), false);
        DUE.is("tape", march.end(5), 5);
    }
}
