/** Promises 9 and 11: days and tell, with Terms 3. */
public final class DaysTest {
    private static final Due DUE = new Due("DaysTest");

    public static void main(String[] args) {
        whichDay();
        marchAndBack();
        stormsHold();
        takeAndLay();
        values();
        arithmetic();
        ifAndWhile();
        threeHundred();
        overOrNot();
        hunger();
        oneBehindTheOther();
        wrongTells();
        DUE.finish();
    }

    /** A party of one man with all the food it can carry and these orders. */
    private static DepotMarch with(String text) {
        DepotMarch march = new DepotMarch();
        march.party(1, 200);
        march.land(500);
        Due.orders(march, 0, text);
        return march;
    }

    private static void whichDay() {
        DepotMarch march = new DepotMarch();
        int[] wrong = {0, -1, 51, Integer.MAX_VALUE, Integer.MIN_VALUE};
        for (int w : wrong) {
            DUE.is("days(" + w + ")", march.days(w), -1);
        }
        DUE.is("days(1)", march.days(1), 1);
        for (int i = 1; i <= 7; i++) {
            DUE.is("days(50)", march.days(50), 1 + 50 * i);
        }
        DUE.is("days(50) above 400", march.days(50), -1);
        DUE.is("days(49)", march.days(49), 400);
        DUE.is("days(1) above 400", march.days(1), -1);
        DUE.is("count(0)", march.count(0), 400);
    }

    private static void marchAndBack() {
        DepotMarch march = with("take 200;back;march;march;back;rest;back;back;");
        int[] camps = {0, 1, 2, 1, 1, 0, 0, 0};
        int[] stayed = {1, 1, 1, 1, 2, 2, 3, 4};
        for (int i = 0; i < camps.length; i++) {
            DUE.is("day", march.days(1), i + 1);
            DUE.is("camp on day " + i, march.tell(0, 3), camps[i]);
            DUE.is("stayed on day " + i, march.tell(0, 7), stayed[i]);
        }
        DepotMarch far = with("take 200;while 1{march;a=a+1;}");
        far.days(15);
        DUE.is("at 15", far.tell(0, 3), 15);
        DUE.is("marches done", far.tell(0, 10), 14);
        far.days(5);
        DUE.is("still at 15", far.tell(0, 3), 15);
        DUE.is("marches done", far.tell(0, 10), 15);
        DUE.is("the march begins again", far.tell(0, 9), 1);
        DUE.is("stayed", far.tell(0, 7), 5);
        DUE.is("parties at 15", far.camp(15, 2), 1);
        DUE.is("parties at 0", far.camp(0, 2), 0);
    }

    private static void stormsHold() {
        DepotMarch march = with("take 200;march;a=1;back;b=1;back;c=1;rest;d=1;");
        march.storm(0, true);
        march.storm(2, true);
        march.storm(4, true);
        march.storm(6, true);
        int[] camps = {0, 1, 1, 0, 0, 0, 0, 0};
        int[] counted = {2, 1, 2, 1, 2, 1, 2, 1};
        for (int i = 0; i < camps.length; i++) {
            march.days(1);
            DUE.is("camp on day " + i, march.tell(0, 3), camps[i]);
            DUE.is("counted on day " + i, march.tell(0, 9), counted[i]);
        }
        DUE.is("c", march.tell(0, 12), 1);
        DUE.is("d: a rest is done in a storm", march.tell(0, 13), 1);
        DUE.is("stayed", march.tell(0, 7), 6);
    }

    private static void takeAndLay() {
        DepotMarch march = new DepotMarch();
        march.party(2, 30);
        march.land(20);
        march.land(25);
        Due.orders(march, 0, "take -5;a=food;take 22;b=food;lay 0-1;lay 1;c=food;take 500;d=food;e=room;f=store;march;"
                + "lay 10;g=food;h=store;lay 1000;i=food;j=store;take 3;");
        march.days(1);
        int[] names = {0, 22, 21, 30, 0, 15};
        for (int i = 0; i < names.length; i++) {
            DUE.is("name " + i, march.tell(0, 10 + i), names[i]);
        }
        DUE.is("food", march.tell(0, 2), 28);
        march.days(1);
        int[] more = {18, 10, 0, 28};
        for (int i = 0; i < more.length; i++) {
            DUE.is("name " + (6 + i), march.tell(0, 16 + i), more[i]);
        }
        DUE.is("food", march.tell(0, 2), 1);
        DUE.is("store of 1", march.camp(1, 0), 25);
        DUE.is("ate", march.tell(0, 6), 4);
        DepotMarch scant = new DepotMarch();
        scant.party(1, 30);
        scant.land(7);
        Due.orders(scant, 0, "take 20;");
        scant.days(1);
        DUE.is("no more than there are", scant.tell(0, 2), 6);
    }

    private static void values() {
        DepotMarch march = with("take 9;a=food;b=store;c=room;d=camp;e=day;f=men;g=storm;h=letter;i=hunger;"
                + "leave 7;leave 8;j=letter;march;k=letter;d=camp;e=day;g=storm;b=store;leave -1;l=letter;");
        march.storm(1, true);
        march.days(1);
        int[] first = {9, 491, 191, 0, 0, 1, 0, -1, 0, 8};
        for (int i = 0; i < first.length; i++) {
            DUE.is("name " + i, march.tell(0, 10 + i), first[i]);
        }
        DUE.is("letter at 0", march.camp(0, 1), 8);
        march.days(2);
        DUE.is("held", march.tell(0, 3), 1);
        DUE.is("no letter there", march.tell(0, 20), -1);
        DUE.is("camp", march.tell(0, 13), 1);
        DUE.is("day", march.tell(0, 14), 1);
        DUE.is("storm", march.tell(0, 16), 1);
        DUE.is("store", march.tell(0, 11), 0);
        DUE.is("l", march.tell(0, 21), -1);
        DepotMarch hungry = new DepotMarch();
        hungry.party(3, 9);
        Due.orders(hungry, 0, "a=hunger;rest;b=hunger;rest;c=hunger;");
        hungry.days(3);
        DUE.is("hunger 0", hungry.tell(0, 10), 0);
        DUE.is("hunger 1", hungry.tell(0, 11), 1);
        DUE.is("hunger 2", hungry.tell(0, 12), 2);
    }

    private static void value(String text, int want) {
        DepotMarch march = with("a=" + text + ";");
        march.days(1);
        DUE.is(text, march.tell(0, 10), want);
    }

    private static void arithmetic() {
        value("7", 7);
        value("2+3*4", 14);
        value("(2+3)*4", 20);
        value("20-5-3", 12);
        value("100/7/2", 7);
        value("-7/2", -3);
        value("7/-2", -3);
        value("-7%3", -1);
        value("7%-3", 1);
        value("7/0", 0);
        value("7%0", 0);
        value("-(2+3)", -5);
        value("1--1", 2);
        value("-2*-3", 6);
        value("1+1=2", 1);
        value("1=2", 0);
        value("2<3", 1);
        value("3<3", 0);
        value("3>2", 1);
        value("3>3", 0);
        value("-1<0", 1);
        value("(1<2)+(3>2)", 2);
        value("99999*99999", 99999 * 99999);
        value("-32768*65536", Integer.MIN_VALUE);
        value("-32768*65536/-1", Integer.MIN_VALUE);
        value("-32768*65536%-1", 0);
        value("-32768*65536-1", Integer.MAX_VALUE);
        value("-(-32768*65536)", Integer.MIN_VALUE);
        value("1+(2+(3+(4+(5+(6+(7+8))))))", 36);
        value("1<2+3*(1<2+3*(1<2+3*(1<2+3*(1<2+3*(1<2+3*(1<2+3*(1<2+3*4)))))))", 1);
    }

    private static void ifAndWhile() {
        DepotMarch march = with("if 0{a=1;}else{a=2;}if 5{b=1;}else{b=2;}if -1{c=1;}if 0{d=1;}"
                + "while e<10{e=e+1;if e=5{f=e;}}while 0{g=1;}h=9;");
        march.days(1);
        int[] names = {2, 1, 1, 0, 10, 5, 0, 9};
        for (int i = 0; i < names.length; i++) {
            DUE.is("name " + i, march.tell(0, 10 + i), names[i]);
        }
        DUE.is("counted", march.tell(0, 9), 2 + 2 + 2 + 1 + 11 + 20 + 1 + 1 + 1);
        DUE.is("over", march.tell(0, 8), 1);
        march.days(1);
        DUE.is("nothing begins any more", march.tell(0, 9), 0);
        DepotMarch day = with("take 100;while a<3{a=a+1;rest;}b=1;");
        day.days(1);
        DUE.is("take, while, a, rest", day.tell(0, 9), 4);
        day.days(1);
        DUE.is("asked again, a, rest", day.tell(0, 9), 3);
        day.days(1);
        DUE.is("b", day.tell(0, 11), 0);
        day.days(1);
        DUE.is("asked, b", day.tell(0, 9), 2);
        DUE.is("b", day.tell(0, 11), 1);
    }

    private static void threeHundred() {
        DepotMarch march = with("take 200;while 1{a=a+1;}");
        march.days(1);
        DUE.is("counted", march.tell(0, 9), 300);
        DUE.is("a: take, then asking and a", march.tell(0, 10), 149);
        DUE.is("stayed", march.tell(0, 7), 1);
        march.days(1);
        DUE.is("it goes on from there", march.tell(0, 10), 299);
        march.days(1);
        DUE.is("and on", march.tell(0, 10), 449);
        DepotMarch empty = with("take 200;while 1{}");
        empty.days(2);
        DUE.is("asking alone", empty.tell(0, 9), 300);
        DepotMarch last = with("while a<149{a=a+1;}march;");
        last.days(1);
        DUE.is("the 300th is the march", last.tell(0, 3), 1);
        DUE.is("counted", last.tell(0, 9), 300);
        DUE.is("over", last.tell(0, 8), 1);
        DepotMarch late = with("b=1;while a<149{a=a+1;}march;");
        late.days(1);
        DUE.is("the march would be the 301st", late.tell(0, 3), 0);
        DUE.is("counted", late.tell(0, 9), 300);
        DUE.is("not over", late.tell(0, 8), 0);
        late.days(1);
        DUE.is("it is the first of the next day", late.tell(0, 3), 1);
        DUE.is("counted", late.tell(0, 9), 1);
    }

    private static int over(String text, int days) {
        DepotMarch march = with(text);
        if (days > 0) {
            march.days(days);
        }
        return march.tell(0, 8);
    }

    private static void overOrNot() {
        DUE.is("no orders", over("", 0), 1);
        DUE.is("at first", over("rest;", 0), 0);
        DUE.is("behind the last", over("rest;", 1), 1);
        DUE.is("one more", over("rest;a=1;", 1), 0);
        DUE.is("that is done too", over("rest;a=1;", 2), 1);
        DUE.is("in an if", over("if 1{rest;}", 1), 1);
        DUE.is("in an if with else", over("if 1{rest;}else{a=1;}", 1), 1);
        DUE.is("in an else", over("if 0{a=1;}else{rest;}", 1), 1);
        DUE.is("in ifs in ifs", over("if 1{if 1{if 1{rest;}else{}}else{rest;}}else{rest;}", 1), 1);
        DUE.is("an if that goes on", over("if 1{rest;a=1;}", 1), 0);
        DUE.is("a while asks", over("while a=0{a=1;rest;}", 1), 0);
        DUE.is("an if in a while", over("while a=0{a=1;if 1{rest;}else{}}", 1), 0);
        DUE.is("a while in an if", over("if 1{while a=0{a=1;rest;}}else{rest;}", 1), 0);
        DUE.is("a back at 0 is done", over("rest;back;", 2), 1);
        DUE.is("stop", over("stop;a=1;", 1), 1);
        DUE.is("stop in a while", over("while 1{stop;}", 1), 1);
        DepotMarch march = with("take 200;stop;a=1;rest;b=1;");
        march.days(1);
        DUE.is("stop counts", march.tell(0, 9), 2);
        march.days(3);
        DUE.is("it rests for ever", march.tell(0, 10), 0);
        DUE.is("and counts nothing", march.tell(0, 9), 0);
        DUE.is("stayed", march.tell(0, 7), 4);
        DUE.is("ate", march.tell(0, 6), 4);
    }

    private static void hunger() {
        DepotMarch march = new DepotMarch();
        march.party(4, 20);
        march.land(6);
        Due.orders(march, 0, "take 20;march;march;march;march;march;");
        march.days(1);
        DUE.is("fed", march.tell(0, 4), 0);
        march.days(1);
        DUE.is("not enough", march.tell(0, 4), 1);
        DUE.is("it ate what there was", march.tell(0, 6), 6);
        march.days(1);
        DUE.is("two days", march.tell(0, 4), 2);
        DUE.is("not lost", march.tell(0, 5), 0);
        DUE.is("there", march.camp(3, 2), 1);
        march.days(1);
        DUE.is("three days", march.tell(0, 4), 3);
        DUE.is("lost", march.tell(0, 5), 1);
        DUE.is("none there", march.camp(4, 2), 0);
        DUE.is("count(8)", march.count(8), 1);
        march.days(5);
        DUE.is("where it is", march.tell(0, 3), 4);
        DUE.is("hunger stays", march.tell(0, 4), 3);
        DUE.is("its latest day", march.tell(0, 9), 1);
        DUE.is("no days of it", march.tell(0, 7), 0);
        DepotMarch fed = new DepotMarch();
        fed.party(1, 5);
        Due.orders(fed, 0, "rest;rest;take 1;");
        fed.days(2);
        DUE.is("hungry", fed.tell(0, 4), 2);
        fed.land(1);
        fed.days(1);
        DUE.is("fed again", fed.tell(0, 4), 0);
        fed.days(2);
        DUE.is("from 0 on", fed.tell(0, 4), 2);
        DUE.is("not lost", fed.tell(0, 5), 0);
    }

    private static void oneBehindTheOther() {
        DepotMarch march = new DepotMarch();
        march.party(1, 10);
        march.party(1, 10);
        march.land(15);
        Due.orders(march, 0, "take 10;lay 2;leave 5;march;");
        Due.orders(march, 1, "a=letter;b=store;take 10;");
        march.days(1);
        DUE.is("the second reads the first's letter", march.tell(1, 10), 5);
        DUE.is("and finds its store", march.tell(1, 11), 7);
        DUE.is("food", march.tell(1, 2), 6);
        DUE.is("all walk before one eats", march.line(1, 0), 1);
        DUE.is("taken", march.line(3, 0), 1);
        DUE.is("eaten", march.line(4, 0), 3);
        DUE.is("by the first", march.line(4, 2), 0);
        DUE.is("eaten", march.line(5, 0), 3);
        DUE.is("by the second", march.line(5, 2), 1);
    }

    private static void wrongTells() {
        DepotMarch march = with("z=5;a=0-1;");
        march.days(1);
        DUE.is("z", march.tell(0, 35), 5);
        DUE.is("a", march.tell(0, 10), -1);
        DUE.is("tell(0, 36)", march.tell(0, 36), -1);
        DUE.is("tell(0, -1)", march.tell(0, -1), -1);
        DUE.is("tell(0, MAX)", march.tell(0, Integer.MAX_VALUE), -1);
        DUE.is("tell(1, 0)", march.tell(1, 0), -1);
        DUE.is("tell(-1, 0)", march.tell(-1, 0), -1);
        DUE.is("tell(MIN, 0)", march.tell(Integer.MIN_VALUE, 0), -1);
    }
}
