/** The limits that Terms 1 and 3 name for what lies in rows and goes on in a day, a method for each sentence. */
public final class DayLimitsTest {
    private static final Due DUE = new Due("DayLimitsTest");
    private static final String GREATEST = "(32767*65536+65535)";
    private static final String LEAST = "(32768*65536)";

    public static void main(String[] args) {
        fiveHundredRationsOfTwentyLots();
        whatComesGoesBehind();
        atCampFifteen();
        atCampZero();
        inAStorm();
        stormsOfTheFirstAndTheLastDay();
        takeNoMoreThanThereAre();
        takeNoMoreThanThereIsRoomFor();
        layNoMoreThanThereAre();
        noneBelowZero();
        behindTheLastS();
        fromStopOn();
        zeroIsNo();
        threeHundredAndNoMore();
        theThreeHundredthOfEachKind();
        eachAskingOfAWhileCounts();
        thingsThatTakeTheDay();
        enoughAndOneLess();
        hungerThree();
        hungerIsInARow();
        lostPartiesDoNothing();
        aLineForRationsOfOneLot();
        byNumber();
        daysOfStaying();
        countedOfTheLatestDay();
        theLastDay();
        DUE.finish();
    }

    /** A party with 500 rations at its ship and these orders. */
    private static DepotMarch with(int men, int carry, String text) {
        DepotMarch march = new DepotMarch();
        march.party(men, carry);
        march.land(500);
        DUE.is("orders of '" + text + "'", Due.orders(march, 0, text) >= 0, true);
        return march;
    }

    private static void tells(DepotMarch march, int party, int first, int... want) {
        for (int i = 0; i < want.length; i++) {
            DUE.is("tell(" + party + ", " + (first + i) + ")", march.tell(party, first + i), want[i]);
        }
    }

    /** LOTS (at most 20, from 0 on) of 1 .. 500 rations. */
    private static void fiveHundredRationsOfTwentyLots() {
        DepotMarch march = new DepotMarch();
        for (int i = 0; i < 20; i++) {
            march.land(500);
        }
        for (int i = 0; i < 6; i++) {
            march.party(6, 200);
            Due.orders(march, i, "while 1{take 200;march;lay 188;back;}");
        }
        march.days(16);
        // eight trips of six parties, each of which brings 188 and eats 12
        DUE.is("eaten", march.count(5), 8 * 6 * 12);
        DUE.is("in the store of 1", march.camp(1, 0), 8 * 6 * 188);
        DUE.is("in that of the ship", march.camp(0, 0), 10000 - 8 * 6 * 200);
        DUE.is("the first lot of it", march.camp(0, 3), 19);
        DUE.is("the last lot there", march.lot(19, 11), 100 - 6);
        DUE.is("in all", march.count(5) + march.count(6) + march.count(7), 10000);
    }

    /** What comes goes behind what is there, in its own order; what goes is the first that there is. */
    private static void whatComesGoesBehind() {
        DepotMarch march = new DepotMarch();
        march.party(1, 5);
        for (int i = 0; i < 4; i++) {
            march.land(1 + i);
        }
        // lots 0 1 1 2 2 2 3 3 3 3: three go, and come back behind the others
        Due.orders(march, 0, "take 3;lay 3;take 2;lay 1;");
        march.days(1);
        DUE.is("the first", march.camp(0, 3), 2);
        DUE.is("the one that was eaten", march.lot(2, 40), 1);
        Due.orders(march, 0, "take 5;lay 4;");
        march.days(1);
        // the store was 2 3 3 3 3 0 1 1 2, of which 2 3 3 3 came behind the last; a 3 was eaten
        DUE.is("the first", march.camp(0, 3), 0);
        DUE.is("lot 3 in the store", march.lot(3, 10), 3);
        Due.orders(march, 0, "take 4;");
        march.days(1);
        int[] carried = {0, 2, 1, 0};
        for (int lot = 0; lot < 4; lot++) {
            DUE.is("lot " + lot + " carried", march.lot(lot, 30), carried[lot]);
        }
        DUE.is("the first", march.camp(0, 3), 2);
    }

    /** march: at 15 it stays, and begins this S again the next day. */
    private static void atCampFifteen() {
        DepotMarch march = with(1, 200, "take 200;" + "march;".repeat(15) + "a=1;march;b=1;");
        march.days(14);
        DUE.is("at 14", march.tell(0, 3), 14);
        march.days(1);
        DUE.is("at 15", march.tell(0, 3), 15);
        DUE.is("it went each day", march.tell(0, 7), 0);
        march.days(1);
        tells(march, 0, 7, 1, 0, 2, 1, 0);
        march.days(3);
        tells(march, 0, 7, 4, 0, 1, 1, 0);
        DUE.is("at 15", march.tell(0, 3), 15);
        DUE.is("no other camp", march.camp(15, 2), 1);
        Due.orders(march, 0, "back;");
        march.days(1);
        DUE.is("at 14 again", march.tell(0, 3), 14);
    }

    /** back: at 0 it stays, and that is done. */
    private static void atCampZero() {
        DepotMarch march = with(1, 200, "take 200;back;a=1;back;b=1;march;back;c=1;back;d=1;");
        march.days(1);
        tells(march, 0, 7, 1, 0, 2, 0, 0);
        march.days(1);
        tells(march, 0, 7, 2, 0, 2, 1, 0);
        march.days(2);
        tells(march, 0, 7, 2, 0, 1, 1, 1, 0);
        DUE.is("at 0", march.tell(0, 3), 0);
        march.days(1);
        tells(march, 0, 7, 3, 0, 2, 1, 1, 1, 0);
        march.days(1);
        tells(march, 0, 7, 4, 1, 1, 1, 1, 1, 1);
    }

    /** In a STORM: it stays, and begins this S again the next day; back as march; take, lay and rest are done. */
    private static void inAStorm() {
        DepotMarch march = with(1, 200, "take 50;march;a=1;lay 10;leave 5;march;back;b=1;rest;c=1;stop;");
        march.storm(1, true);
        march.storm(3, true);
        march.storm(4, true);
        march.storm(6, true);
        int[] camps = {1, 1, 2, 2, 2, 1, 1, 1};
        int[] counted = {2, 4, 1, 1, 1, 1, 2, 2};
        for (int day = 0; day < camps.length; day++) {
            march.days(1);
            DUE.is("camp on day " + day, march.tell(0, 3), camps[day]);
            DUE.is("counted on day " + day, march.tell(0, 9), counted[day]);
        }
        DUE.is("laid in the storm", march.camp(1, 0), 10);
        DUE.is("left in the storm", march.camp(1, 1), 5);
        DUE.is("stayed", march.tell(0, 7), 5);
        tells(march, 0, 10, 1, 1, 1);
    }

    /** STORMS are told by days, 0 .. 399; storm: 1 if there is one today, else 0. */
    private static void stormsOfTheFirstAndTheLastDay() {
        DepotMarch march = with(1, 200, "take 200;a=storm;march;b=storm;rest;c=storm;");
        march.storm(0, true);
        march.storm(2, true);
        march.days(1);
        DUE.is("a storm on day 0", march.tell(0, 10), 1);
        DUE.is("held", march.tell(0, 3), 0);
        march.days(1);
        DUE.is("none on day 1", march.tell(0, 3), 1);
        march.days(1);
        DUE.is("one on day 2", march.tell(0, 11), 1);
        march.days(1);
        DUE.is("none on day 3", march.tell(0, 12), 0);
        DepotMarch late = new DepotMarch();
        for (int i = 0; i < 8; i++) {
            late.days(i == 7 ? 48 : 50);
        }
        late.party(1, 1);
        late.storm(399, true);
        Due.orders(late, 0, "a=storm;march;b=storm;march;");
        late.days(1);
        DUE.is("none on day 398", late.tell(0, 10), 0);
        DUE.is("it went", late.tell(0, 3), 1);
        DUE.is("the last day", late.days(1), 400);
        DUE.is("one on day 399", late.tell(0, 11), 1);
        DUE.is("held", late.tell(0, 3), 1);
    }

    /** take: as many rations as E tells, but no more than there are. */
    private static void takeNoMoreThanThereAre() {
        int[] asked = {19, 20, 21, 200};
        for (int n : asked) {
            DepotMarch march = new DepotMarch();
            march.party(1, 200);
            march.land(20);
            Due.orders(march, 0, "take " + n + ";a=food;b=store;");
            march.days(1);
            tells(march, 0, 10, Math.min(n, 20), 20 - Math.min(n, 20));
            DUE.is("the line", march.line(1, 5), Math.min(n, 20));
        }
        DepotMarch none = new DepotMarch();
        none.party(1, 200);
        Due.orders(none, 0, "take 5;a=food;lay 5;");
        none.days(1);
        DUE.is("nothing there", none.tell(0, 10), 0);
        DUE.is("no line", none.count(3), 0);
    }

    /** take: no more than it has room for. */
    private static void takeNoMoreThanThereIsRoomFor() {
        int[] carries = {1, 2, 199, 200};
        for (int carry : carries) {
            String[] asked = {String.valueOf(carry - 1), String.valueOf(carry), String.valueOf(carry + 1), GREATEST};
            for (int i = 0; i < asked.length; i++) {
                DepotMarch march = with(1, carry, "take " + asked[i] + ";a=food;b=room;take 1;c=food;");
                march.days(1);
                int first = i == 0 ? carry - 1 : carry;
                tells(march, 0, 10, first, carry - first, carry);
                DUE.is("lines", march.count(3), 1 + (first > 0 ? 1 : 0) + (carry - first) + 1);
            }
        }
    }

    /** lay: no more than there are; a STORE has room for all. */
    private static void layNoMoreThanThereAre() {
        String[] asked = {"49", "50", "51", GREATEST};
        for (int i = 0; i < asked.length; i++) {
            DepotMarch march = with(1, 50, "take 50;lay " + asked[i] + ";a=food;b=store;");
            march.days(1);
            tells(march, 0, 10, i == 0 ? 1 : 0, i == 0 ? 499 : 500);
            DUE.is("the line", march.line(2, 5), i == 0 ? 49 : 50);
        }
    }

    /** None below 0. */
    private static void noneBelowZero() {
        String[] asked = {"0", "-1", "-200", LEAST, "1-2"};
        for (String n : asked) {
            DepotMarch march = with(1, 50, "take 20;take " + n + ";a=food;lay " + n + ";b=food;c=store;");
            march.days(1);
            tells(march, 0, 10, 20, 20, 480);
            DUE.is("lines: landed, taken, eaten", march.count(3), 3);
        }
    }

    /** Behind the last S it rests, for ever. */
    private static void behindTheLastS() {
        DepotMarch march = with(1, 200, "take 200;march;");
        march.days(1);
        DUE.is("over", march.tell(0, 8), 1);
        march.days(50);
        tells(march, 0, 6, 51, 50, 1, 0);
        DUE.is("where it was", march.tell(0, 3), 1);
        DepotMarch none = with(1, 200, "");
        none.days(1);
        tells(none, 0, 7, 1, 1, 0);
    }

    /** From stop on it rests, for ever. */
    private static void fromStopOn() {
        String[] texts = {"take 200;stop;a=1;march;", "take 200;while 1{stop;a=1;march;}a=1;",
            "take 200;if 1{stop;}a=1;"};
        int[] counted = {2, 3, 3};
        for (int i = 0; i < texts.length; i++) {
            DepotMarch march = with(1, 200, texts[i]);
            march.days(1);
            DUE.is("counted", march.tell(0, 9), counted[i]);
            march.days(50);
            tells(march, 0, 6, 51, 51, 1, 0, 0);
            DUE.is("where it was", march.tell(0, 3), 0);
            DUE.is("new orders", Due.orders(march, 0, "a=2;march;"), 2);
            march.days(1);
            DUE.is("they are begun", march.tell(0, 10), 2);
            DUE.is("camp", march.tell(0, 3), 1);
        }
    }

    /** if, while: E is asked, 0 is no. */
    private static void zeroIsNo() {
        String[] yes = {"1", "-1", "2", GREATEST, LEAST, "1=1"};
        for (String e : yes) {
            DepotMarch march = with(1, 9, "a=1;if " + e + "{b=1;}else{b=2;}while a*" + "(" + e + "){a=0;c=1;}d=1;");
            march.days(1);
            tells(march, 0, 10, 0, 1, 1, 1);
        }
        String[] no = {"0", "-0", "1-1", "1=2", "65536*65536", LEAST + "*2"};
        for (String e : no) {
            DepotMarch march = with(1, 9, "a=1;if " + e + "{b=1;}else{b=2;}if " + e + "{e=1;}while " + e
                    + "{a=0;c=1;rest;}d=1;");
            march.days(1);
            tells(march, 0, 10, 1, 2, 0, 1, 0);
        }
    }

    /** If 300 were counted in a day it rests, and goes on from there the next day. */
    private static void threeHundredAndNoMore() {
        // an asking and two S for each round, one more asking at the end
        for (int before = 0; before <= 4; before++) {
            DepotMarch march = with(1, 200, "b=1;".repeat(before) + "while a<99{a=a+1;c=c+2;}march;d=1;");
            march.days(1);
            boolean marched = before + 99 * 3 + 1 + 1 <= 300;
            DUE.is("before " + before + ": the camp", march.tell(0, 3), marched ? 1 : 0);
            DUE.is("counted", march.tell(0, 9), Math.min(300, before + 299));
            march.days(1);
            DUE.is("the next day", march.tell(0, 3), 1);
            DUE.is("counted", march.tell(0, 9), marched ? 1 : before - 1);
        }
        DepotMarch endless = with(1, 200, "take 200;while 1{a=a+1;}");
        for (int day = 0; day < 5; day++) {
            endless.days(1);
            DUE.is("counted", endless.tell(0, 9), 300);
            DUE.is("a", endless.tell(0, 10), (day + 1) * 150 - 1);
            DUE.is("stayed", endless.tell(0, 7), day + 1);
        }
    }

    /** A text whose S behind the first, of 299, is the 300th of its day. */
    private static DepotMarch behind299(String text) {
        DepotMarch march = with(1, 200, "take 20;while x<148{x=x+1;}y=1;" + text);
        march.days(1);
        DUE.is("counted before '" + text + "'", march.tell(0, 11 + 'x' - 'a'), 1);
        return march;
    }

    /** The 300th is begun and done, whatever it is; what lies behind it is for the next day. */
    private static void theThreeHundredthOfEachKind() {
        DepotMarch take = behind299("take 3;a=food;");
        DUE.is("taken", take.tell(0, 2), 22);
        DUE.is("a", take.tell(0, 10), 0);
        DepotMarch lay = behind299("lay 3;a=1;");
        DUE.is("laid", lay.tell(0, 2), 16);
        DUE.is("a", lay.tell(0, 10), 0);
        DepotMarch leave = behind299("leave 3;leave 4;");
        DUE.is("left", leave.camp(0, 1), 3);
        leave.days(1);
        DUE.is("the next day", leave.camp(0, 1), 4);
        DepotMarch march = behind299("march;a=1;");
        DUE.is("gone", march.tell(0, 3), 1);
        DUE.is("not over", march.tell(0, 8), 0);
        DepotMarch stop = behind299("stop;a=1;");
        DUE.is("over", stop.tell(0, 8), 1);
        DepotMarch last = behind299("a=1;");
        DUE.is("done", last.tell(0, 10), 1);
        DUE.is("over", last.tell(0, 8), 1);
        DepotMarch one = behind299("a=1;b=1;");
        tells(one, 0, 8, 0, 300, 1, 0);
        one.days(1);
        tells(one, 0, 8, 1, 1, 1, 1);
        askedAsThe300th();
    }

    /** What an if or a while was told as the 300th holds the next day. */
    private static void askedAsThe300th() {
        DepotMarch yes = behind299("if day=0{a=1;}else{b=1;}");
        tells(yes, 0, 8, 0, 300, 0, 0);
        yes.days(1);
        tells(yes, 0, 8, 1, 1, 1, 0);
        DepotMarch no = behind299("if day{a=1;}else{b=1;}");
        tells(no, 0, 8, 0, 300, 0, 0);
        no.days(1);
        tells(no, 0, 8, 1, 1, 0, 1);
        DepotMarch without = behind299("if day{a=1;}");
        tells(without, 0, 8, 1, 300, 0);
        DepotMarch empty = behind299("if day=0{}else{a=1;}");
        tells(empty, 0, 8, 1, 300, 0);
        DepotMarch loop = behind299("while day=0{a=1;}b=1;");
        tells(loop, 0, 8, 0, 300, 0, 0);
        loop.days(1);
        tells(loop, 0, 8, 1, 3, 1, 1);
        DepotMarch noLoop = behind299("while day{a=1;}");
        tells(noLoop, 0, 8, 1, 300, 0);
        DepotMarch emptyLoop = behind299("while day=0{}");
        tells(emptyLoop, 0, 8, 0, 300);
        emptyLoop.days(1);
        tells(emptyLoop, 0, 8, 1, 1);
    }

    /** Each S that begins, and each further asking of a while, counts one. */
    private static void eachAskingOfAWhileCounts() {
        int[] rounds = {0, 1, 2, 98, 99};
        for (int n : rounds) {
            DepotMarch march = with(1, 9, "while a<" + n + "{a=a+1;if 1{}}");
            march.days(1);
            DUE.is(n + " rounds", march.tell(0, 9), 3 * n + 1);
            DUE.is("over", march.tell(0, 8), 1);
        }
        DepotMarch nested = with(1, 9, "while a<3{b=0;while b<2{b=b+1;}a=a+1;}");
        nested.days(1);
        // each round of the outer: its asking, b, three askings, two b, a
        DUE.is("a while in a while", nested.tell(0, 9), 3 * 8 + 1);
        DepotMarch full = with(1, 200, "take 9;while 1{}");
        full.days(1);
        DUE.is("askings alone", full.tell(0, 9), 300);
        DUE.is("not over", full.tell(0, 8), 0);
    }

    /** Up to an S that takes the day: march, back, rest (and stop, from which on it rests). */
    private static void thingsThatTakeTheDay() {
        String[] words = {"march", "back", "rest", "stop"};
        for (String word : words) {
            DepotMarch march = with(1, 9, "a=1;" + word + ";a=2;");
            march.days(1);
            DUE.is(word + " takes the day", march.tell(0, 10), 1);
            DUE.is("counted", march.tell(0, 9), 2);
        }
        String[] others = {"take 1", "lay 1", "leave 1", "b=1"};
        for (String word : others) {
            DepotMarch march = with(1, 9, "a=1;" + word + ";a=2;rest;a=3;");
            march.days(1);
            DUE.is(word + " does not", march.tell(0, 10), 2);
            DUE.is("counted", march.tell(0, 9), 4);
        }
    }

    /** Eats a ration for each of its MEN; if there is not enough it eats what there is, and its HUNGER is one more. */
    private static void enoughAndOneLess() {
        for (int men = 1; men <= 6; men++) {
            for (int food = 0; food <= men + 1; food++) {
                DepotMarch march = with(men, 200, "take " + food + ";");
                march.days(1);
                DUE.is(men + " men, " + food + " rations: eaten", march.tell(0, 6), Math.min(men, food));
                DUE.is("left", march.tell(0, 2), Math.max(0, food - men));
                DUE.is("HUNGER", march.tell(0, 4), food < men ? 1 : 0);
                DUE.is("lines", march.count(3), food > 0 ? 3 : 1);
            }
        }
        DepotMarch small = with(6, 5, "while 1{take 5;rest;}");
        small.days(2);
        DUE.is("it can't carry enough", small.tell(0, 4), 2);
        DUE.is("ate", small.tell(0, 6), 10);
        DUE.is("left", small.tell(0, 2), 0);
    }

    /** One whose HUNGER is 3 is LOST, where it is. */
    private static void hungerThree() {
        DepotMarch march = with(2, 200, "take 1;march;march;march;march;");
        int[] lost = {0, 0, 1, 1};
        for (int day = 0; day < 4; day++) {
            march.days(1);
            int camp = Math.min(3, day + 1);
            tells(march, 0, 3, camp, camp, lost[day], 1, 0, 0, day == 0 ? 2 : 1);
            DUE.is("count(8)", march.count(8), lost[day]);
            DUE.is("parties at its camp", march.camp(camp, 2), 1 - lost[day]);
        }
    }

    /** hunger: days in a row that it went hungry; else that is 0. */
    private static void hungerIsInARow() {
        DepotMarch march = with(1, 9, "rest;rest;take 1;rest;rest;rest;take 1;rest;rest;rest;rest;");
        int[] want = {1, 2, 0, 1, 2, 0, 1, 2, 3};
        for (int day = 0; day < want.length; day++) {
            DUE.is("not LOST before day " + day, march.tell(0, 5), 0);
            march.days(1);
            DUE.is("HUNGER on day " + day, march.tell(0, 4), want[day]);
        }
        DUE.is("LOST", march.tell(0, 5), 1);
    }

    /** Each party that is not LOST: the others neither walk nor eat. */
    private static void lostPartiesDoNothing() {
        DepotMarch march = with(1, 9, "while 1{a=a+1;leave a;if day>2{take 9;march;}else{rest;}}");
        march.party(1, 9);
        Due.orders(march, 1, "take 9;");
        march.days(8);
        tells(march, 0, 2, 0, 0, 3, 1, 0, 3, 0, 5, 3);
        DUE.is("its last letter", march.camp(0, 1), 3);
        DUE.is("what the other took", march.camp(0, 0), 491);
        DUE.is("parties there", march.camp(0, 2), 1);
        DUE.is("LOST", march.count(8), 1);
        DUE.is("not LOST", march.tell(1, 5), 0);
    }

    /** Rations of one LOT that go at once (by one S, or one meal), one behind the other, are a line. */
    private static void aLineForRationsOfOneLot() {
        DepotMarch march = new DepotMarch();
        march.party(6, 9);
        march.land(2);
        march.land(1);
        march.land(9);
        // 0 0 1 2 ..: a 0 goes behind, so that the next S takes 0 1 2, and the last one the 0 alone
        Due.orders(march, 0, "take 1;lay 1;take 3;lay 1;lay 2;take 8;take 1;");
        march.days(1);
        int[][] want = {{1, 0, 1}, {2, 0, 1}, {1, 0, 1}, {1, 1, 1}, {1, 2, 1}, {2, 0, 1}, {2, 1, 1}, {2, 2, 1},
            {1, 2, 8}, {1, 0, 1}, {3, 2, 6}};
        for (int i = 0; i < want.length; i++) {
            DUE.is("kind of line " + (3 + i), march.line(3 + i, 0), want[i][0]);
            DUE.is("lot of line " + (3 + i), march.line(3 + i, 4), want[i][1]);
            DUE.is("rations of line " + (3 + i), march.line(3 + i, 5), want[i][2]);
        }
        DUE.is("lines", march.count(3), 3 + want.length);
        march.days(1);
        // 2 2 0 are carried
        DUE.is("a meal of two lots", march.count(3), 3 + want.length + 2);
        DUE.is("lot 2", march.line(14, 5), 2);
        DUE.is("lot 0", march.line(15, 5), 1);
    }

    /** Each party, by number, goes; then, when all have, each party, by number, eats. */
    private static void byNumber() {
        DepotMarch march = new DepotMarch();
        march.land(8);
        for (int i = 0; i < 6; i++) {
            march.party(1, 3);
            Due.orders(march, i, "take 3;leave letter+2;a=letter;b=store;lay 1;");
        }
        march.days(1);
        int[] letters = {1, 3, 5, 7, 9, 11};
        int[] stores = {5, 3, 1, 0, 0, 0};
        int[] food = {1, 1, 1, 0, 0, 0};
        int[] hunger = {0, 0, 0, 0, 1, 1};
        // the fourth finds two and lays one, which the fifth finds and lays, and then the last
        for (int i = 0; i < 6; i++) {
            DUE.is("letter of " + i, march.tell(i, 10), letters[i]);
            DUE.is("store of " + i, march.tell(i, 11), stores[i]);
            DUE.is("food of " + i, march.tell(i, 2), food[i]);
            DUE.is("hunger of " + i, march.tell(i, 4), hunger[i]);
        }
        int lines = march.count(3);
        int eaten = 0;
        for (int k = 0; k < lines; k++) {
            eaten += march.line(k, 0) == 3 ? 1 : 0;
        }
        for (int k = 0; k < eaten; k++) {
            DUE.is("meals come last", march.line(lines - eaten + k, 0), 3);
            DUE.is("by number", march.line(lines - eaten + k, 2), k);
        }
    }

    /** Days on which it did not go to another camp. */
    private static void daysOfStaying() {
        DepotMarch march = with(1, 200, "take 200;march;back;back;rest;march;stop;");
        int[] want = {0, 0, 1, 2, 2, 3, 4};
        DUE.is("at first", march.tell(0, 7), 0);
        for (int day = 0; day < want.length; day++) {
            march.days(1);
            DUE.is("stayed till day " + day, march.tell(0, 7), want[day]);
        }
        march.party(1, 5);
        DUE.is("a party made later", march.tell(1, 7), 0);
        march.days(1);
        DUE.is("its first day", march.tell(1, 7), 1);
    }

    /** Counted S of its latest day. */
    private static void countedOfTheLatestDay() {
        DepotMarch march = with(1, 200, "take 200;a=1;b=1;rest;rest;");
        DUE.is("at first", march.tell(0, 9), 0);
        march.days(1);
        DUE.is("four", march.tell(0, 9), 4);
        Due.orders(march, 0, "a=1;");
        DUE.is("orders change nothing of it", march.tell(0, 9), 4);
        march.days(1);
        DUE.is("one", march.tell(0, 9), 1);
        march.days(1);
        DUE.is("none", march.tell(0, 9), 0);
    }

    /** DAYS are numbered from 0 on, and none is above 400. */
    private static void theLastDay() {
        DepotMarch march = new DepotMarch();
        for (int i = 0; i < 7; i++) {
            march.days(50);
        }
        march.days(49);
        march.party(1, 5);
        Due.orders(march, 0, "a=day;rest;a=day;");
        march.days(1);
        DUE.is("the last day is 399", march.tell(0, 10), 399);
        DUE.is("no more", march.days(1), -1);
        DUE.is("nothing goes on", march.tell(0, 10), 399);
        DUE.is("a lot can be landed", march.land(5), 0);
        DUE.is("on day 400", march.line(0, 1), 400);
    }
}
