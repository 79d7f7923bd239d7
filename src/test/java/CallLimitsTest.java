import java.util.function.Consumer;

/**
 * The limits that promises 1 to 19 name, a method for each sentence, which stands above it: the last that is taken, the
 * first that is not, and that a refused call changes nothing.
 */
public final class CallLimitsTest {
    private static final Due DUE = new Due("CallLimitsTest");
    private static final int MIN = Integer.MIN_VALUE;
    private static final int MAX = Integer.MAX_VALUE;
    private static final Twins MIDWAY = new Twins(DUE, CallLimitsTest::midway);

    public static void main(String[] args) {
        aNewObject();
        aNewParty();
        feedMoreThan500();
        feedPutsItsBytesInTheirOrder();
        endOfSoMany();
        endKeepsTheFirst();
        partyOfOtherNumbers();
        partyTheSeventh();
        ordersOfNoParty();
        ordersOfALostParty();
        ordersWithAFault();
        ordersOfNothing();
        faultOfAnotherWhat();
        landOfAnotherNumber();
        landTheTwentyFirst();
        stormThatWasSo();
        stormOnNoSuchDay();
        stormOnADayThatIsOver();
        daysOfAnotherNumber();
        daysAbove400();
        aheadOfAnotherNumber();
        aheadAbove400();
        aheadChangesNothing();
        aheadTheFirstDay();
        aheadOfALostParty();
        tellOfNoneSuch();
        tellANameOfMinusOne();
        campOfNoneSuch();
        campWithNothing();
        lotOfNoneSuch();
        lineOfNoneSuch();
        lineBeyondThoseKept();
        countOfAnotherWhat();
        needOfOtherNumbers();
        farOfOtherNumbers();
        imageOfAnotherNumber();
        againWithoutAnImage();
        DUE.finish();
    }

    /** Day 5 of three parties, one of them LOST, with storms, letters, two images, a fault, and a text on the tape. */
    private static void midway(DepotMarch march) {
        march.land(60);
        march.land(40);
        march.party(2, 30);
        march.party(1, 9);
        march.storm(2, true);
        march.storm(7, true);
        march.storm(399, true);
        Due.orders(march, 0, "take 30;leave 4;while 1{a=a+1;march;lay 3;back;rest;take 5;}");
        march.image(0);
        march.days(3);
        march.party(3, 50);
        Due.orders(march, 2, "take 50;while camp<4{b=b-1;march;lay 2;leave b;}");
        march.image(1);
        march.days(2);
        Due.orders(march, 2, "rest;rest");
        Due.put(march, 0, "take 2;c=7;march;");
    }

    /** A tape of n bytes, the first of them a text, the rest blanks. */
    private static DepotMarch withTape(int n, String text) {
        DepotMarch march = new DepotMarch();
        march.party(1, 10);
        Due.put(march, 0, text + " ".repeat(n - text.length()));
        return march;
    }

    private static int feed(DepotMarch march, String text) {
        return march.feed(Due.word(text, 0), Due.word(text, 4), Due.word(text, 8), Due.word(text, 12),
                Due.word(text, 16));
    }

    /** No LOTS, no PARTIES, day 0, no STORMS; the tape is empty, no images. */
    private static void aNewObject() {
        DepotMarch march = new DepotMarch();
        for (int what = 0; what <= 8; what++) {
            DUE.is("count(" + what + ")", march.count(what), 0);
        }
        for (int day = 0; day < 400; day++) {
            DUE.is("no storm on day " + day, march.storm(day, false), false);
        }
        for (int k = 0; k < 3; k++) {
            DUE.is("no image " + k, march.again(k), false);
        }
        DUE.is("the tape is empty", march.end(1), -1);
        DUE.is("the first bytes on it", feed(march, ""), 20);
    }

    /** PARTIES have ORDERS (none at first), NAMES (0 at first), HUNGER, and are at first at camp 0, with no FOOD. */
    private static void aNewParty() {
        DepotMarch march = new DepotMarch();
        march.land(9);
        march.days(3);
        DUE.is("party", march.party(2, 7), 0);
        for (int what = 0; what < 36; what++) {
            int want = what == 0 ? 2 : what == 1 ? 7 : what == 8 ? 1 : 0;
            DUE.is("tell(0, " + what + ")", march.tell(0, what), want);
        }
        DUE.is("it is at camp 0", march.camp(0, 2), 1);
        DUE.is("no line of it", march.count(3), 1);
    }

    /** Twenty bytes come behind the tape: how many it has. NONE, and nothing comes, if there would be more than 500. */
    private static void feedMoreThan500() {
        DUE.is("feed on 0", feed(withTape(0, ""), "#"), 20);
        DUE.is("feed on 479", feed(withTape(479, ""), "#"), 499);
        DUE.is("feed on 480", feed(withTape(480, ""), "#"), 500);
        int[] lengths = {481, 482, 499, 500};
        for (int n : lengths) {
            DepotMarch march = withTape(n, "rest;a=1;");
            DUE.is("feed on " + n, feed(march, "#"), -1);
            DUE.is("end behind it", march.end(n + 1), -1);
            DUE.is("end(" + n + ")", march.end(n), n);
            DUE.is("nothing came", march.orders(0), 2);
            new Twins(DUE, m -> {
                m.party(1, 10);
                Due.put(m, 0, "rest;a=1;" + " ".repeat(n - 9));
            }).unchanged("feed on " + n, -1, m -> feed(m, "#"));
        }
    }

    /** Of each number the highest first. */
    private static void feedPutsItsBytesInTheirOrder() {
        for (int i = 0; i < 20; i++) {
            int[] words = {0x20202020, 0x20202020, 0x20202020, 0x20202020, 0x20202020};
            int shift = 24 - i % 4 * 8;
            words[i / 4] = words[i / 4] & ~(255 << shift) | 255 << shift;
            DepotMarch march = new DepotMarch();
            march.party(1, 10);
            march.feed(words[0], words[1], words[2], words[3], words[4]);
            DUE.is("byte 255", march.orders(0), -1);
            DUE.is("its place", march.fault(1), i);
        }
    }

    /** NONE if it has not so many, or n is below 0. */
    private static void endOfSoMany() {
        int[] lengths = {0, 1, 19, 20, 21, 499, 500};
        for (int n : lengths) {
            DUE.is("end(" + n + ") of " + n, withTape(n, "").end(n), n);
            DUE.is("end(0) of " + n, withTape(n, "").end(0), 0);
            DUE.is("end(" + (n + 1) + ") of " + n, withTape(n, "").end(n + 1), -1);
            DUE.is("end(-1) of " + n, withTape(n, "").end(-1), -1);
        }
        int[] wrong = {-1, 18, 500, 501, MIN, MAX};
        for (int n : wrong) {
            MIDWAY.unchanged("end(" + n + ")", -1, m -> m.end(n));
        }
        MIDWAY.unchanged("end(17), all that there are", 17, m -> m.end(17));
    }

    /** The tape has its first n bytes alone. */
    private static void endKeepsTheFirst() {
        DepotMarch march = withTape(7, "rest;##");
        DUE.is("end(5)", march.end(5), 5);
        DUE.is("the others are gone", march.end(6), -1);
        DUE.is("the first are there", march.orders(0), 1);
        DepotMarch other = withTape(4, "re##");
        other.end(2);
        DUE.is("feed", feed(other, "st;a=1;"), 22);
        DUE.is("it came behind the first", other.orders(0), 2);
    }

    /** A PARTY is made: its number. NONE: there are 6, or other numbers (1 .. 6 MEN, CARRY 1 .. 200). */
    private static void partyOfOtherNumbers() {
        int[][] taken = {{1, 1}, {6, 1}, {1, 200}, {6, 200}};
        for (int[] t : taken) {
            DepotMarch march = new DepotMarch();
            DUE.is("party(" + t[0] + ", " + t[1] + ")", march.party(t[0], t[1]), 0);
            DUE.is("men", march.tell(0, 0), t[0]);
            DUE.is("carry", march.tell(0, 1), t[1]);
        }
        int[][] wrong = {{0, 1}, {7, 1}, {0, 200}, {7, 200}, {1, 0}, {6, 0}, {1, 201}, {6, 201}, {-1, 9}, {2, -1},
            {MIN, 9}, {MAX, 9}, {2, MIN}, {2, MAX}};
        for (int[] w : wrong) {
            MIDWAY.unchanged("party(" + w[0] + ", " + w[1] + ")", -1, m -> m.party(w[0], w[1]));
        }
    }

    private static void sixParties(DepotMarch march) {
        march.land(500);
        for (int i = 0; i < 6; i++) {
            march.party(1 + i, 10 * (i + 1));
            Due.orders(march, i, "take room;while 1{march;back;}");
        }
        march.days(2);
        Due.put(march, 0, "rest;");
    }

    private static void partyTheSeventh() {
        DepotMarch march = new DepotMarch();
        for (int i = 0; i < 6; i++) {
            DUE.is("party " + i, march.party(1, 1), i);
        }
        DUE.is("a seventh", march.party(1, 1), -1);
        DUE.is("parties", march.count(1), 6);
        new Twins(DUE, CallLimitsTest::sixParties).unchanged("a seventh", -1, m -> m.party(6, 200));
    }

    /** -2, and the tape stays: there is no such PARTY. */
    private static void ordersOfNoParty() {
        int[] wrong = {-1, 3, 4, 5, 6, MIN, MAX};
        for (int w : wrong) {
            MIDWAY.unchanged("orders(" + w + ")", -2, m -> m.orders(w));
        }
        DepotMarch none = new DepotMarch();
        DUE.is("no party at all", none.orders(0), -2);
        DepotMarch six = new DepotMarch();
        sixParties(six);
        DUE.is("orders(6)", six.orders(6), -2);
        DUE.is("orders(5)", six.orders(5), 1);
    }

    /** -2, and the tape stays: it is LOST. */
    private static void ordersOfALostParty() {
        DepotMarch march = new DepotMarch();
        march.party(1, 5);
        march.days(2);
        Due.put(march, 0, "rest;");
        DUE.is("HUNGER 2", march.orders(0), 1);
        march.days(1);
        Due.put(march, 0, "rest;");
        DUE.is("HUNGER 3", march.orders(0), -2);
        DUE.is("the tape stays", march.end(5), 5);
        MIDWAY.unchanged("orders(1), which is LOST", -2, m -> m.orders(1));
    }

    /** NONE: a FAULT. A refused call changes nothing but the tape, which is empty behind each call that takes it. */
    private static void ordersWithAFault() {
        String[] texts = {"c=7;d=8", "#", "c=7;".repeat(61)};
        for (String text : texts) {
            Consumer<DepotMarch> making = m -> {
                midway(m);
                m.end(0);
                Due.put(m, 0, text);
            };
            new Twins(DUE, making).unchangedButTheTape("orders of '" + text + "'", -1, m -> m.orders(0));
            DepotMarch march = new DepotMarch();
            making.accept(march);
            march.orders(0);
            DUE.is("the tape is empty", march.end(1), -1);
        }
        DepotMarch good = new DepotMarch();
        midway(good);
        DUE.is("good orders", good.orders(0), 3);
        DUE.is("the tape is empty", good.end(1), -1);
    }

    /** A text may have no S. */
    private static void ordersOfNothing() {
        DepotMarch march = new DepotMarch();
        midway(march);
        march.end(0);
        DUE.is("before", march.tell(0, 8), 0);
        DUE.is("orders of an empty tape", march.orders(0), 0);
        DUE.is("without fault", march.fault(0), 0);
        DUE.is("they are over", march.tell(0, 8), 1);
        DUE.is("the names stay", march.tell(0, 10), 2);
        march.days(1);
        DUE.is("none begins", march.tell(0, 9), 0);
    }

    /** What 0: the FAULT, 0 without, 1: its place, NONE without. NONE for another what. */
    private static void faultOfAnotherWhat() {
        int[] wrong = {-1, 2, MIN, MAX};
        for (int w : wrong) {
            MIDWAY.unchanged("fault(" + w + ")", -1, m -> m.fault(w));
        }
        MIDWAY.unchanged("fault(0)", 1, m -> m.fault(0));
        MIDWAY.unchanged("fault(1)", 9, m -> m.fault(1));
        DepotMarch march = new DepotMarch();
        DUE.is("fault(0) before any orders", march.fault(0), 0);
        DUE.is("fault(1) before any orders", march.fault(1), -1);
        march.orders(0);
        DUE.is("fault(0) behind -2", march.fault(0), 0);
        DUE.is("fault(1) behind -2", march.fault(1), -1);
    }

    /** A LOT is landed: its number. NONE: there are 20, or another number (1 .. 500 rations). */
    private static void landOfAnotherNumber() {
        int[] taken = {1, 2, 499, 500};
        for (int t : taken) {
            DepotMarch march = new DepotMarch();
            DUE.is("land(" + t + ")", march.land(t), 0);
            DUE.is("rations of it", march.lot(0, 0), t);
            DUE.is("in the store", march.camp(0, 0), t);
            DUE.is("its line", march.line(0, 5), t);
        }
        int[] wrong = {0, 501, -1, MIN, MAX};
        for (int w : wrong) {
            MIDWAY.unchanged("land(" + w + ")", -1, m -> m.land(w));
        }
    }

    private static void twentyLots(DepotMarch march) {
        for (int i = 0; i < 20; i++) {
            march.land(500 - i);
        }
        march.party(6, 200);
        Due.orders(march, 0, "while 1{take room;march;back;}");
        march.days(3);
    }

    private static void landTheTwentyFirst() {
        DepotMarch march = new DepotMarch();
        for (int i = 0; i < 20; i++) {
            DUE.is("lot " + i, march.land(500), i);
        }
        DUE.is("a 21st", march.land(1), -1);
        DUE.is("lots", march.count(2), 20);
        DUE.is("rations", march.count(4), 10000);
        new Twins(DUE, CallLimitsTest::twentyLots).unchanged("a 21st", -1, m -> m.land(500));
    }

    /** There is a STORM on a day, or there is none, from now on: true; false if it was so. */
    private static void stormThatWasSo() {
        int[] days = {0, 1, 398, 399};
        for (int day : days) {
            DepotMarch march = new DepotMarch();
            DUE.is("none was there", march.storm(day, false), false);
            DUE.is("a storm", march.storm(day, true), true);
            DUE.is("it was there", march.storm(day, true), false);
            DUE.is("none any more", march.storm(day, false), true);
            DUE.is("none was there", march.storm(day, false), false);
        }
        MIDWAY.unchanged("storm(7, true)", 0, m -> Twins.number(m.storm(7, true)));
        MIDWAY.unchanged("storm(399, true)", 0, m -> Twins.number(m.storm(399, true)));
        MIDWAY.unchanged("storm(8, false)", 0, m -> Twins.number(m.storm(8, false)));
        MIDWAY.unchanged("storm(5, false)", 0, m -> Twins.number(m.storm(5, false)));
    }

    /** False for a day that is none of these (0 .. 399). */
    private static void stormOnNoSuchDay() {
        int[] wrong = {-1, 400, MIN, MAX};
        for (int w : wrong) {
            DepotMarch march = new DepotMarch();
            DUE.is("storm(" + w + ", true)", march.storm(w, true), false);
            DUE.is("storm(" + w + ", false)", march.storm(w, false), false);
            MIDWAY.unchanged("storm(" + w + ", true)", 0, m -> Twins.number(m.storm(w, true)));
            MIDWAY.unchanged("storm(" + w + ", false)", 0, m -> Twins.number(m.storm(w, false)));
        }
    }

    /** False for a day that is over; today's is not. */
    private static void stormOnADayThatIsOver() {
        MIDWAY.unchanged("storm(4, true)", 0, m -> Twins.number(m.storm(4, true)));
        MIDWAY.unchanged("storm(0, true)", 0, m -> Twins.number(m.storm(0, true)));
        MIDWAY.unchanged("storm(2, false)", 0, m -> Twins.number(m.storm(2, false)));
        DepotMarch march = new DepotMarch();
        midway(march);
        DUE.is("today's", march.storm(5, true), true);
        DepotMarch late = onDay(399);
        DUE.is("the last day is today", late.storm(399, true), true);
        late.days(1);
        DUE.is("it is over", late.storm(399, false), false);
        DUE.is("no such day", late.storm(400, true), false);
    }

    private static DepotMarch onDay(int day) {
        DepotMarch march = new DepotMarch();
        passTo(march, day);
        return march;
    }

    private static void passTo(DepotMarch march, int day) {
        while (march.count(0) < day) {
            march.days(Math.min(50, day - march.count(0)));
        }
    }

    /** So many DAYS go by, 1 .. 50: which day it is then. NONE for another number. */
    private static void daysOfAnotherNumber() {
        int[] taken = {1, 2, 49, 50};
        for (int t : taken) {
            DUE.is("days(" + t + ")", new DepotMarch().days(t), t);
        }
        int[] wrong = {0, 51, -1, MIN, MAX};
        for (int w : wrong) {
            MIDWAY.unchanged("days(" + w + ")", -1, m -> m.days(w));
        }
    }

    /** NONE if it would be above 400. */
    private static void daysAbove400() {
        DUE.is("350 and 50", onDay(350).days(50), 400);
        DUE.is("351 and 50", onDay(351).days(50), -1);
        DUE.is("351 and 49", onDay(351).days(49), 400);
        DUE.is("399 and 1", onDay(399).days(1), 400);
        DUE.is("399 and 2", onDay(399).days(2), -1);
        DUE.is("400 and 1", onDay(400).days(1), -1);
        DUE.is("400 and MAX", onDay(400).days(MAX), -1);
        Twins late = new Twins(DUE, m -> {
            midway(m);
            passTo(m, 390);
        });
        late.unchanged("390 and 11", -1, m -> m.days(11));
        late.unchanged("390 and 50", -1, m -> m.days(50));
    }

    /** -2: n is none that days() takes, or for another what. */
    private static void aheadOfAnotherNumber() {
        int[] wrong = {0, 51, -1, MIN, MAX};
        for (int w : wrong) {
            for (int what = 0; what < 3; what++) {
                int kind = what;
                DUE.is("ahead(" + w + ", " + what + ")", new DepotMarch().ahead(w, what), -2);
                MIDWAY.unchanged("ahead(" + w + ", " + what + ")", -2, m -> m.ahead(w, kind));
            }
        }
        int[] whats = {-1, 3, MIN, MAX};
        for (int what : whats) {
            MIDWAY.unchanged("ahead(1, " + what + ")", -2, m -> m.ahead(1, what));
            MIDWAY.unchanged("ahead(50, " + what + ")", -2, m -> m.ahead(50, what));
        }
        DUE.is("ahead(1, 1)", new DepotMarch().ahead(1, 1), 0);
        DUE.is("ahead(50, 1)", new DepotMarch().ahead(50, 1), 0);
    }

    private static void aheadAbove400() {
        for (int what = 1; what < 3; what++) {
            DUE.is("350 and 50", onDay(350).ahead(50, what), 0);
            DUE.is("351 and 50", onDay(351).ahead(50, what), -2);
            DUE.is("399 and 1", onDay(399).ahead(1, what), 0);
            DUE.is("399 and 2", onDay(399).ahead(2, what), -2);
            DUE.is("400 and 1", onDay(400).ahead(1, what), -2);
        }
        DepotMarch last = onDay(399);
        last.party(1, 1);
        DUE.is("hungry on the last day", last.ahead(1, 0), 399);
    }

    /** If n DAYS went by: they do not. */
    private static void aheadChangesNothing() {
        MIDWAY.unchanged("ahead(1, 0)", -1, m -> m.ahead(1, 0));
        DepotMarch march = new DepotMarch();
        midway(march);
        march.days(50);
        int stores = march.count(6);
        MIDWAY.unchanged("ahead(50, 2)", stores, m -> m.ahead(50, 2));
        MIDWAY.unchanged("ahead(50, 1)", 3, m -> m.ahead(50, 1));
    }

    /** The first of them at whose end a PARTY has HUNGER, NONE if none has. */
    private static void aheadTheFirstDay() {
        DepotMarch march = new DepotMarch();
        march.party(1, 60);
        march.land(60);
        Due.orders(march, 0, "take 49;");
        DUE.is("50 days, 49 rations", march.ahead(50, 0), 49);
        DUE.is("49 days, 49 rations", march.ahead(49, 0), -1);
        Due.orders(march, 0, "take 50;");
        DUE.is("50 days, 50 rations", march.ahead(50, 0), -1);
        Due.orders(march, 0, "");
        DUE.is("the first day", march.ahead(50, 0), 0);
        DUE.is("the first day of one", march.ahead(1, 0), 0);
        march.days(2);
        DUE.is("HUNGER already, and more", march.ahead(1, 0), 2);
        Due.orders(march, 0, "take 3;");
        DUE.is("HUNGER now, none at the end", march.ahead(1, 0), -1);
        DUE.is("none till day 5", march.ahead(10, 0), 5);
        march.party(6, 200);
        DUE.is("the other has it before", march.ahead(10, 0), 2);
    }

    /** A PARTY that is not LOST now. */
    private static void aheadOfALostParty() {
        DepotMarch march = new DepotMarch();
        march.party(1, 60);
        march.days(2);
        DUE.is("HUNGER 2: it would be LOST", march.ahead(1, 0), 2);
        DUE.is("it would be LOST", march.ahead(1, 1), 1);
        march.days(1);
        DUE.is("it is LOST", march.ahead(50, 0), -1);
        DUE.is("it is LOST then, too", march.ahead(50, 1), 1);
    }

    /** NONE if there is none such, or for another what. */
    private static void tellOfNoneSuch() {
        int[] parties = {-1, 3, 6, MIN, MAX};
        for (int party : parties) {
            int[] whats = {0, 2, 9, 10, 35};
            for (int what : whats) {
                MIDWAY.unchanged("tell(" + party + ", " + what + ")", -1, m -> m.tell(party, what));
            }
        }
        int[] whats = {-1, 36, 37, MIN, MAX};
        for (int what : whats) {
            MIDWAY.unchanged("tell(0, " + what + ")", -1, m -> m.tell(0, what));
            MIDWAY.unchanged("tell(2, " + what + ")", -1, m -> m.tell(2, what));
        }
        MIDWAY.unchanged("tell(2, 35)", 0, m -> m.tell(2, 35));
        MIDWAY.unchanged("tell(2, 0)", 3, m -> m.tell(2, 0));
        DepotMarch six = new DepotMarch();
        sixParties(six);
        DUE.is("tell(5, 0)", six.tell(5, 0), 6);
        DUE.is("tell(6, 0)", six.tell(6, 0), -1);
    }

    /** A NAME may be -1, too. */
    private static void tellANameOfMinusOne() {
        DepotMarch march = new DepotMarch();
        march.party(1, 1);
        Due.orders(march, 0, "a=-1;y=-2;z=0-1;");
        march.days(1);
        DUE.is("a", march.tell(0, 10), -1);
        DUE.is("y", march.tell(0, 34), -2);
        DUE.is("z", march.tell(0, 35), -1);
        DUE.is("b", march.tell(0, 11), 0);
    }

    /** NONE if there is none such, or for another what. */
    private static void campOfNoneSuch() {
        int[] camps = {-1, 16, MIN, MAX};
        for (int camp : camps) {
            for (int what = 0; what < 4; what++) {
                int kind = what;
                MIDWAY.unchanged("camp(" + camp + ", " + what + ")", -1, m -> m.camp(camp, kind));
            }
        }
        int[] whats = {-1, 4, MIN, MAX};
        for (int what : whats) {
            MIDWAY.unchanged("camp(0, " + what + ")", -1, m -> m.camp(0, what));
            MIDWAY.unchanged("camp(15, " + what + ")", -1, m -> m.camp(15, what));
        }
        MIDWAY.unchanged("camp(15, 0)", 0, m -> m.camp(15, 0));
        MIDWAY.unchanged("camp(15, 2)", 0, m -> m.camp(15, 2));
    }

    /** The latest letter (-1), the LOT that would be taken first (NONE). */
    private static void campWithNothing() {
        DepotMarch march = new DepotMarch();
        march.land(1);
        march.land(1);
        march.party(1, 1);
        Due.orders(march, 0, "take 1;rest;take 1;leave 0;");
        DUE.is("no letter", march.camp(0, 1), -1);
        DUE.is("the first lot", march.camp(0, 3), 0);
        march.days(1);
        DUE.is("the next", march.camp(0, 3), 1);
        march.days(1);
        DUE.is("none", march.camp(0, 3), -1);
        DUE.is("an empty store", march.camp(0, 0), 0);
        DUE.is("letter 0", march.camp(0, 1), 0);
        march.days(3);
        DUE.is("LOST parties are not there", march.camp(0, 2), 0);
    }

    /** NONE if there is none such, or for another what. */
    private static void lotOfNoneSuch() {
        int[] lots = {-1, 2, 3, 20, MIN, MAX};
        for (int lot : lots) {
            int[] whats = {0, 1, 2, 3, 10, 25, 30, 40};
            for (int what : whats) {
                MIDWAY.unchanged("lot(" + lot + ", " + what + ")", -1, m -> m.lot(lot, what));
            }
        }
        int[] whats = {-1, 4, 5, 9, 26, 29, 33, 34, 35, 36, 39, 43, 44, 45, 46, 50, MIN, MAX};
        for (int what : whats) {
            MIDWAY.unchanged("lot(0, " + what + ")", -1, m -> m.lot(0, what));
            MIDWAY.unchanged("lot(1, " + what + ")", -1, m -> m.lot(1, what));
        }
        DepotMarch six = new DepotMarch();
        sixParties(six);
        int[] taken = {0, 3, 10, 25, 30, 35, 40, 45};
        int[] want = {500, 42, 500 - 10 * 21, 0, 8, 48, 2, 12};
        for (int i = 0; i < taken.length; i++) {
            DUE.is("lot(0, " + taken[i] + ")", six.lot(0, taken[i]), want[i]);
        }
        DUE.is("lot(0, 36)", six.lot(0, 36), -1);
        DUE.is("lot(0, 46)", six.lot(0, 46), -1);
        DepotMarch twenty = new DepotMarch();
        twentyLots(twenty);
        DUE.is("lot(19, 0)", twenty.lot(19, 0), 481);
        DUE.is("lot(20, 0)", twenty.lot(20, 0), -1);
        DUE.is("no lots", new DepotMarch().lot(0, 0), -1);
    }

    /** NONE if there is none such, or for another what. */
    private static void lineOfNoneSuch() {
        DepotMarch march = new DepotMarch();
        midway(march);
        int lines = march.count(3);
        DUE.is("the last line is a meal", march.line(lines - 1, 0), 3);
        int[] numbers = {-1, lines, lines + 1, 599, 600, MIN, MAX};
        for (int k : numbers) {
            for (int what = 0; what < 6; what++) {
                int kind = what;
                MIDWAY.unchanged("line(" + k + ", " + what + ")", -1, m -> m.line(k, kind));
            }
        }
        int[] whats = {-1, 6, MIN, MAX};
        for (int what : whats) {
            MIDWAY.unchanged("line(0, " + what + ")", -1, m -> m.line(0, what));
            MIDWAY.unchanged("line(1, " + what + ")", -1, m -> m.line(1, what));
        }
        DUE.is("line(1, 0)", march.line(1, 0), 0);
        DUE.is("line(1, 5)", march.line(1, 5), 40);
        DUE.is("no lines", new DepotMarch().line(0, 0), -1);
    }

    /** The first 600 are kept; lines of THE BOOK (all that there were). */
    private static void lineBeyondThoseKept() {
        DepotMarch march = new DepotMarch();
        march.land(500);
        march.party(1, 200);
        Due.orders(march, 0, "take 9;while 1{take 1;lay 1;}");
        march.days(2);
        Due.orders(march, 0, "a=0;while a<96{take 1;lay 1;a=a+1;}");
        march.days(2);
        // the lot, two days of 200 lines and a meal, a day of 192 and a meal, and a meal
        DUE.is("lines", march.count(3), 1 + 201 + 201 + 193 + 1);
        march.land(7);
        march.land(8);
        march.land(9);
        DUE.is("lines", march.count(3), 600);
        DUE.is("the 600th", march.line(599, 5), 9);
        DUE.is("its kind", march.line(599, 0), 0);
        march.land(11);
        DUE.is("lines", march.count(3), 601);
        for (int what = 0; what < 6; what++) {
            DUE.is("no 601st", march.line(600, what), -1);
        }
        int[] want = {0, 4, -1, 0, 3, 9};
        for (int what = 0; what < 6; what++) {
            DUE.is("the 600th stays", march.line(599, what), want[what]);
        }
        march.image(0);
        march.days(1);
        DUE.is("lines", march.count(3), 602);
        march.again(0);
        DUE.is("lines", march.count(3), 601);
        DUE.is("the 600th", march.line(599, 5), 9);
        DUE.is("no 601st", march.line(600, 0), -1);
    }

    /** NONE for another what. */
    private static void countOfAnotherWhat() {
        int[] wrong = {-1, 9, 10, MIN, MAX};
        for (int w : wrong) {
            DUE.is("count(" + w + ")", new DepotMarch().count(w), -1);
            MIDWAY.unchanged("count(" + w + ")", -1, m -> m.count(w));
        }
        MIDWAY.unchanged("count(0)", 5, m -> m.count(0));
        MIDWAY.unchanged("count(8)", 1, m -> m.count(8));
    }

    /** NONE: no such camp, other rations (c 3 .. 200). */
    private static void needOfOtherNumbers() {
        DepotMarch march = new DepotMarch();
        DUE.is("need(3, 0)", march.need(3, 0), 0);
        DUE.is("need(200, 0)", march.need(200, 0), 0);
        DUE.is("need(3, 1): one trip at least", march.need(3, 1), 2);
        DUE.is("need(3, 15)", march.need(3, 15), 9565938);
        DUE.is("need(200, 15)", march.need(200, 15), 30);
        int[] carries = {2, 201, 1, 0, -1, MIN, MAX};
        int[] camps = {-1, 16, MIN, MAX};
        for (int carry : carries) {
            DUE.is("need(" + carry + ", 0)", march.need(carry, 0), -1);
            DUE.is("need(" + carry + ", 15)", march.need(carry, 15), -1);
            MIDWAY.unchanged("need(" + carry + ", 15)", -1, m -> m.need(carry, 15));
        }
        for (int camp : camps) {
            DUE.is("need(3, " + camp + ")", march.need(3, camp), -1);
            DUE.is("need(200, " + camp + ")", march.need(200, camp), -1);
            MIDWAY.unchanged("need(3, " + camp + ")", -1, m -> m.need(3, camp));
        }
        needWhereTripsAreFull();
    }

    /** N divided by c - 2, rounded up: N a multiple of it, one more, one less. */
    private static void needWhereTripsAreFull() {
        DepotMarch march = new DepotMarch();
        DUE.is("4 by 2", march.need(4, 3), 8);
        DUE.is("4 by 3", march.need(5, 3), 8);
        DUE.is("4 by 4", march.need(6, 3), 6);
        DUE.is("4 by 5", march.need(7, 3), 6);
        DUE.is("28 by 28", march.need(30, 15), 30);
        DUE.is("28 by 27", march.need(29, 15), 32);
    }

    /** FAR for so many rations, 0 .. 1000000: the greatest d, 15 at most. NONE: other numbers. */
    private static void farOfOtherNumbers() {
        DepotMarch march = new DepotMarch();
        DUE.is("far(3, 0)", march.far(3, 0), 0);
        DUE.is("far(200, 0)", march.far(200, 0), 0);
        DUE.is("far(200, 1)", march.far(200, 1), 0);
        DUE.is("far(200, 2)", march.far(200, 2), 1);
        DUE.is("far(3, 1000000)", march.far(3, 1000000), 12);
        DUE.is("need of it", march.need(3, 12) <= 1000000 && march.need(3, 13) > 1000000, true);
        DUE.is("far(200, 29)", march.far(200, 29), 14);
        DUE.is("far(200, 30)", march.far(200, 30), 15);
        DUE.is("far(200, 32): 15 at most", march.far(200, 32), 15);
        DUE.is("far(200, 1000000)", march.far(200, 1000000), 15);
        int[] carries = {2, 201, 1, 0, -1, MIN, MAX};
        int[] rations = {-1, 1000001, MIN, MAX};
        for (int carry : carries) {
            DUE.is("far(" + carry + ", 0)", march.far(carry, 0), -1);
            MIDWAY.unchanged("far(" + carry + ", 9)", -1, m -> m.far(carry, 9));
        }
        for (int many : rations) {
            DUE.is("far(3, " + many + ")", march.far(3, many), -1);
            DUE.is("far(200, " + many + ")", march.far(200, many), -1);
            MIDWAY.unchanged("far(200, " + many + ")", -1, m -> m.far(200, many));
        }
    }

    /** Image k (0 .. 2): true; false for another k. */
    private static void imageOfAnotherNumber() {
        int[] wrong = {-1, 3, 4, MIN, MAX};
        for (int k : wrong) {
            MIDWAY.unchanged("image(" + k + ")", 0, m -> Twins.number(m.image(k)));
        }
        for (int k = 0; k < 3; k++) {
            DepotMarch march = new DepotMarch();
            march.days(1 + k);
            DUE.is("image(" + k + ")", march.image(k), true);
            march.days(9);
            for (int other = 0; other < 3; other++) {
                DUE.is("again(" + other + ")", march.again(other), other == k);
            }
            DUE.is("the day of it", march.count(0), 1 + k);
        }
    }

    /** False if there is none such. */
    private static void againWithoutAnImage() {
        int[] wrong = {-1, 2, 3, MIN, MAX};
        for (int k : wrong) {
            MIDWAY.unchanged("again(" + k + ")", 0, m -> Twins.number(m.again(k)));
        }
    }
}
