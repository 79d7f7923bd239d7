/** Promises 18 and 19: image and again. */
public final class ImageTest {
    private static final Due DUE = new Due("ImageTest");

    public static void main(String[] args) {
        whichImages();
        allIsAsItWas();
        imagesStandAlone();
        lotsOfTwoImages();
        daysOfTwoImages();
        rowsOfAnImage(0);
        rowsOfAnImage(2);
        manyRuns();
        DUE.finish();
    }

    private static void whichImages() {
        DepotMarch march = new DepotMarch();
        int[] wrong = {-1, 3, Integer.MAX_VALUE, Integer.MIN_VALUE};
        for (int k : wrong) {
            DUE.is("image(" + k + ")", march.image(k), false);
            DUE.is("again(" + k + ")", march.again(k), false);
        }
        DUE.is("again(1) without", march.again(1), false);
        DUE.is("image(1)", march.image(1), true);
        DUE.is("again(0) without", march.again(0), false);
        DUE.is("again(2) without", march.again(2), false);
        DUE.is("again(1)", march.again(1), true);
        DUE.is("and once more", march.again(1), true);
    }

    private static void allIsAsItWas() {
        DepotMarch march = new DepotMarch();
        march.party(2, 20);
        march.land(40);
        march.storm(3, true);
        Due.orders(march, 0, "take 15;a=5;leave 6;march;b=7;lay 4;rest;leave 8;c=9;back;");
        march.days(2);
        march.image(0);
        Due.put(march, 0, "stay");
        march.days(2);
        march.storm(9, true);
        march.party(3, 30);
        march.land(9);
        Due.orders(march, 0, "d=1;");
        Due.put(march, 0, "stay");
        march.days(3);
        DUE.is("again(0)", march.again(0), true);
        DUE.is("the tape is no part of it", march.end(4), 4);
        march.end(0);
        DUE.is("day", march.count(0), 2);
        DUE.is("parties", march.count(1), 1);
        DUE.is("lots", march.count(2), 1);
        DUE.is("lines", march.count(3), 5);
        DUE.is("line 3", march.line(3, 0), 2);
        DUE.is("line 4", march.line(4, 5), 2);
        DUE.is("line 5", march.line(5, 0), -1);
        DUE.is("landed", march.count(4), 40);
        DUE.is("eaten", march.count(5), 4);
        DUE.is("letter at 1", march.camp(1, 1), -1);
        DUE.is("letter at 0", march.camp(0, 1), 6);
        DUE.is("store of 1", march.camp(1, 0), 4);
        DUE.is("food", march.tell(0, 2), 7);
        DUE.is("no storm on 9", march.storm(9, false), false);
        DUE.is("a storm on 3", march.storm(3, true), false);
        DUE.is("no second party", march.tell(1, 0), -1);
        DUE.is("b", march.tell(0, 11), 7);
        DUE.is("c", march.tell(0, 12), 0);
        march.days(1);
        DUE.is("its orders go on", march.tell(0, 12), 9);
        DUE.is("letter at 1", march.camp(1, 1), 8);
        DUE.is("a party made anew", march.party(1, 5), 1);
        for (int what = 2; what < 36; what++) {
            DUE.is("tell(1, " + what + ")", march.tell(1, what), what == 8 ? 1 : 0);
        }
        DUE.is("a lot made anew", march.land(3), 1);
        DUE.is("rations of it", march.lot(1, 0), 3);
    }

    private static void imagesStandAlone() {
        linesOfAnImage();
        DepotMarch march = new DepotMarch();
        march.image(0);
        march.days(1);
        march.image(1);
        march.days(1);
        march.image(2);
        march.days(1);
        march.again(1);
        DUE.is("image 1", march.count(0), 1);
        march.again(2);
        DUE.is("image 2", march.count(0), 2);
        march.again(0);
        DUE.is("image 0", march.count(0), 0);
        march.days(7);
        march.image(1);
        march.again(0);
        march.again(1);
        DUE.is("image 1 anew", march.count(0), 7);
    }

    private static void linesOfAnImage() {
        DepotMarch march = new DepotMarch();
        march.image(0);
        march.land(5);
        march.image(1);
        march.again(0);
        march.land(7);
        DUE.is("line of the one", march.line(0, 5), 7);
        march.again(1);
        DUE.is("line of the other", march.line(0, 5), 5);
    }

    private static void lotsOfTwoImages() {
        DepotMarch march = new DepotMarch();
        march.image(0);
        march.land(5);
        march.land(6);
        march.image(1);
        march.again(0);
        march.land(70);
        march.image(2);
        march.again(1);
        DUE.is("lots of the one", march.count(2), 2);
        DUE.is("rations of it", march.lot(0, 0), 5);
        DUE.is("landed in all", march.count(4), 11);
        DUE.is("in the store", march.lot(1, 10), 6);
        march.again(2);
        DUE.is("lots of the other", march.count(2), 1);
        DUE.is("rations of it", march.lot(0, 0), 70);
        DUE.is("landed in all", march.count(4), 70);
        DUE.is("no second lot", march.lot(1, 0), -1);
    }

    private static void daysOfTwoImages() {
        DepotMarch march = new DepotMarch();
        march.land(50);
        march.party(2, 20);
        Due.orders(march, 0, "take 20;leave 3;a=a-1;b=9;march;b=8;rest;stop;");
        march.image(0);
        march.days(1);
        march.image(1);
        march.days(4);
        // FOOD, camp, HUNGER, LOST, eaten, stayed, over, counted, a, b
        int[] atFirst = {0, 0, 0, 0, 0, 0, 0, 0, 0, 0};
        int[] oneDay = {18, 1, 0, 0, 2, 0, 0, 5, -1, 9};
        int[] fourDays = {12, 1, 0, 0, 8, 3, 1, 0, -1, 8};
        int[] fiveDays = {10, 1, 0, 0, 10, 4, 1, 0, -1, 8};
        tells(march, fiveDays);
        march.image(2);
        march.again(1);
        tells(march, oneDay);
        march.again(0);
        tells(march, atFirst);
        DUE.is("no letter", march.camp(0, 1), -1);
        march.again(2);
        tells(march, fiveDays);
        DUE.is("a letter", march.camp(0, 1), 3);
        march.again(1);
        march.days(3);
        tells(march, fourDays);
    }

    /** What is told of party 0 from its FOOD to its NAME b. */
    private static void tells(DepotMarch march, int[] want) {
        for (int i = 0; i < want.length; i++) {
            DUE.is("tell(0, " + (2 + i) + ")", march.tell(0, 2 + i), want[i]);
        }
    }

    /** A ration that went since the image lies in its row again, and none that comes takes its place. */
    private static void rowsOfAnImage(int landedBetween) {
        DepotMarch march = new DepotMarch();
        for (int i = 0; i < 3; i++) {
            march.land(1);
        }
        march.party(1, 1);
        Due.orders(march, 0, "while 1{take 1;rest;}");
        march.image(0);
        march.days(2);
        for (int i = 0; i < landedBetween; i++) {
            march.land(1);
        }
        march.again(0);
        march.land(1);
        for (int lot = 0; lot < 4; lot++) {
            DUE.is("the first", march.camp(0, 3), lot);
            march.days(1);
            DUE.is("it is eaten", march.lot(lot, 40), 1);
        }
        DUE.is("none is left", march.camp(0, 0), 0);
    }

    /** Six parties lay a ration each day by day, so that the store comes to lie in very many short runs. */
    private static void manyRuns() {
        DepotMarch march = new DepotMarch();
        for (int i = 0; i < 6; i++) {
            march.party(1, 200);
            march.land(200);
            Due.orders(march, i, "take 200;while 1{lay 1;rest;}");
        }
        march.image(0);
        march.days(50);
        march.image(1);
        march.days(40);
        DUE.is("ahead", march.ahead(10, 2), 600);
        manyRunsLie(march, 90);
        march.image(2);
        march.again(1);
        manyRunsLie(march, 50);
        march.again(0);
        DUE.is("store", march.camp(0, 0), 1200);
        march.again(2);
        manyRunsLie(march, 90);
        int lines = march.count(3);
        Due.orders(march, 3, "take 100;");
        march.days(1);
        DUE.is("a line for each run", march.count(3) - lines, 100 + 5 + 6);
        DUE.is("the next of them", march.camp(0, 3), 100 % 6);
        DUE.is("ahead", march.ahead(5, 2), 540 - 100 + 5 + 5 * 5);
    }

    private static void manyRunsLie(DepotMarch march, int ofEachLot) {
        DUE.is("store", march.camp(0, 0), 6 * ofEachLot);
        DUE.is("first", march.camp(0, 3), 0);
        for (int lot = 0; lot < 6; lot++) {
            DUE.is("in the store", march.lot(lot, 10), ofEachLot);
            DUE.is("carried", march.lot(lot, 30 + lot), 200 - 2 * ofEachLot);
            DUE.is("eaten", march.lot(lot, 40 + lot), ofEachLot);
        }
    }
}
