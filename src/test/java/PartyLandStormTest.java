/** Promises 4, 7 and 8: party, land, storm. */
public final class PartyLandStormTest {
    private static final Due DUE = new Due("PartyLandStormTest");

    public static void main(String[] args) {
        parties();
        lots();
        storms();
        DUE.finish();
    }

    private static void parties() {
        DepotMarch march = new DepotMarch();
        int[][] wrong = {{0, 1}, {7, 1}, {1, 0}, {1, 201}, {-1, -1}, {Integer.MAX_VALUE, 5}, {5, Integer.MIN_VALUE}};
        for (int[] w : wrong) {
            DUE.is("party(" + w[0] + ", " + w[1] + ")", march.party(w[0], w[1]), -1);
        }
        DUE.is("party(1, 1)", march.party(1, 1), 0);
        DUE.is("party(6, 200)", march.party(6, 200), 1);
        for (int i = 2; i < 6; i++) {
            DUE.is("party", march.party(2, 30 + i), i);
        }
        DUE.is("a seventh", march.party(1, 1), -1);
        DUE.is("count(1)", march.count(1), 6);
        DUE.is("men", march.tell(1, 0), 6);
        DUE.is("carry", march.tell(1, 1), 200);
        for (int what = 2; what < 36; what++) {
            DUE.is("tell(5, " + what + ")", march.tell(5, what), what == 8 ? 1 : 0);
        }
        DUE.is("parties at 0", march.camp(0, 2), 6);
    }

    private static void lots() {
        DepotMarch march = new DepotMarch();
        int[] wrong = {0, -1, 501, Integer.MAX_VALUE, Integer.MIN_VALUE};
        for (int w : wrong) {
            DUE.is("land(" + w + ")", march.land(w), -1);
        }
        DUE.is("land(1)", march.land(1), 0);
        for (int i = 1; i < 20; i++) {
            DUE.is("land(500)", march.land(500), i);
        }
        DUE.is("a 21st", march.land(1), -1);
        DUE.is("count(2)", march.count(2), 20);
        DUE.is("count(4)", march.count(4), 9501);
        DUE.is("count(6)", march.count(6), 9501);
        DUE.is("store of 0", march.camp(0, 0), 9501);
        DUE.is("first of it", march.camp(0, 3), 0);
        DUE.is("lines", march.count(3), 20);
    }

    private static void storms() {
        DepotMarch march = new DepotMarch();
        DUE.is("no storm yet", march.storm(0, false), false);
        DUE.is("a storm today", march.storm(0, true), true);
        DUE.is("it was so", march.storm(0, true), false);
        DUE.is("none today", march.storm(0, false), true);
        DUE.is("storm(399)", march.storm(399, true), true);
        DUE.is("storm(400)", march.storm(400, true), false);
        DUE.is("storm(-1)", march.storm(-1, true), false);
        DUE.is("storm(MIN)", march.storm(Integer.MIN_VALUE, true), false);
        DUE.is("storm(MAX)", march.storm(Integer.MAX_VALUE, true), false);
        march.days(3);
        DUE.is("a day that is over", march.storm(2, true), false);
        DUE.is("today", march.storm(3, true), true);
        for (int i = 0; i < 7; i++) {
            march.days(50);
        }
        march.days(47);
        DUE.is("the 400th day", march.count(0), 400);
        DUE.is("all are over", march.storm(399, false), false);
        DUE.is("storm(400)", march.storm(400, false), false);
    }
}
