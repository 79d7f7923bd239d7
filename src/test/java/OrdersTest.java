/** Promises 5 and 6: orders and fault, with the text's rules of Terms 2. */
public final class OrdersTest {
    private static final Due DUE = new Due("OrdersTest");

    public static void main(String[] args) {
        goodTexts();
        faultsOfTheText();
        openAtOnePlace();
        tooManyStatements();
        whoCanHaveOrders();
        faultIsOfTheLatest();
        DUE.finish();
    }

    private static void good(String text, int statements) {
        DepotMarch march = new DepotMarch();
        march.party(1, 10);
        DUE.is("orders '" + text + "'", Due.orders(march, 0, text), statements);
        DUE.is("fault of '" + text + "'", march.fault(0), 0);
        DUE.is("its place", march.fault(1), -1);
        DUE.is("the tape behind it", march.end(1), -1);
    }

    private static void bad(String text, int fault, int place) {
        DepotMarch march = new DepotMarch();
        march.party(1, 10);
        DUE.is("orders '" + text + "'", Due.orders(march, 0, text), -1);
        DUE.is("fault of '" + text + "'", march.fault(0), fault);
        DUE.is("place in '" + text + "'", march.fault(1), place);
        DUE.is("the tape behind it", march.end(1), -1);
        DUE.is("orders of the party", march.tell(0, 8), 1);
    }

    private static void goodTexts() {
        good("", 0);
        good(" \n  ", 0);
        good("march;", 1);
        good("march;back;rest;stop;take 1;lay 2;leave 3;a=4;", 8);
        good("if 1{}", 1);
        good("if 1 { march; } else { back; rest; }", 4);
        good("while a<5{a=a+1;if a{}}", 3);
        good("a=99999;b=00000;", 2);
        good("a = b = c ;", 1);
        good("a=(b=c)=(d<e);", 1);
        good("a=1--1;b=-1*-2/-3%-4;c=-(-1);", 3);
        good("a=food+store-room*camp/day%men+storm+letter+hunger;", 1);
        good("take food;lay room;leave-1;", 3);
        good("march\n;\nback ;", 2);
        good("if a{}", 1);
        good("if(a){}", 1);
    }

    private static void faultsOfTheText() {
        bad("march", 1, 5);
        bad("march ", 1, 6);
        bad(";", 1, 0);
        bad("marc;", 1, 0);
        bad("marchh;", 1, 0);
        bad("  mar ch;", 1, 2);
        bad("march;#", 1, 6);
        bad("March;", 1, 0);
        bad("march\t;", 1, 5);
        bad("a=100000;", 1, 2);
        bad("a=1 2;", 1, 4);
        bad("a=;", 1, 2);
        bad("a 1;", 1, 2);
        bad("a=b=c=d;", 1, 5);
        bad("a=b<c>d;", 1, 5);
        bad("a=--1;", 1, 3);
        bad("a=1---1;", 1, 5);
        bad("a=+1;", 1, 2);
        bad("a=(1;", 1, 4);
        bad("a=();", 1, 3);
        bad("a=1);", 1, 3);
        bad("a=march;", 1, 2);
        bad("take;", 1, 4);
        bad("take 1", 1, 6);
        bad("march 1;", 1, 6);
        bad("food;", 1, 0);
        bad("1;", 1, 0);
        bad("if 1 march;", 1, 5);
        bad("if {}", 1, 3);
        bad("if 1 {march;", 1, 12);
        bad("if 1 {} else", 1, 12);
        bad("if 1 {} else march;", 1, 13);
        bad("if 1 {} else {} else {}", 1, 16);
        bad("else {}", 1, 0);
        bad("while 1 {} else {}", 1, 11);
        bad("while 1;", 1, 7);
        bad("a=1;}", 1, 4);
        bad("{}", 1, 0);
        bad("ab=1;", 1, 0);
        bad("a=ab;", 1, 2);
        bad("z=a1;", 1, 3);
        bad("ifa{}", 1, 0);
        bad("a=1;b", 1, 5);
        bad("leave letters;", 1, 6);
        bad("a=1; 123456 #", 1, 5);
        bad("a=1;\u00ff", 1, 4);
    }

    private static String repeat(String part, int n) {
        return part.repeat(n);
    }

    private static void openAtOnePlace() {
        good("a=" + repeat("(", 7) + "1" + repeat(")", 7) + ";", 1);
        bad("a=" + repeat("(", 8) + "1" + repeat(")", 8) + ";", 1, 10);
        bad("a=" + repeat("(", 8), 1, 10);
        bad("a=" + repeat("(", 8) + " ;", 1, 11);
        bad("a=" + repeat("(", 7) + "1+(1)" + repeat(")", 7) + ";", 1, 12);
        good("a=" + repeat("(", 6) + "(1)+(1)=(1)" + repeat(")", 6) + ";", 1);
        bad("a=" + repeat("-(", 8) + "1", 1, 18);
        good(repeat("if 1{", 6) + repeat("}", 6), 6);
        good(repeat("while 1{", 6) + "a=" + repeat("(", 7) + "1" + repeat(")", 7) + ";" + repeat("}", 6), 7);
        bad(repeat("if 1{", 7) + repeat("}", 7), 1, 34);
        bad(repeat("while 1{", 7) + repeat("}", 7), 1, 55);
        bad(repeat("if 1{", 6) + "if 1" + repeat("}", 6), 1, 34);
        bad(repeat("if 1{}else{", 7) + repeat("}", 7), 1, 6 * 11 + 4);
        good(repeat("if 1{}else{", 5) + "if 1{}else{}" + repeat("}", 5), 6);
    }

    private static void tooManyStatements() {
        good(repeat("a=1;", 60), 60);
        bad(repeat("a=1;", 61), 2, 240);
        bad(repeat("a=1;", 60) + "  rest;" + repeat("a=1;", 5), 2, 242);
        bad(repeat("a=1;", 62) + "#", 1, 248);
        bad(repeat("a=b;", 125), 2, 240);
        bad("if 1{" + repeat("a=1;", 60) + "}", 2, 5 + 59 * 4);
        good("if 1{" + repeat("a=1;", 30) + "}else{" + repeat("a=1;", 29) + "}", 60);
        bad(repeat("a=1;", 59) + "if 1{rest;}", 2, 59 * 4 + 5);
    }

    private static void whoCanHaveOrders() {
        DepotMarch march = new DepotMarch();
        Due.put(march, 0, "march;");
        DUE.is("no party", march.orders(0), -2);
        DUE.is("orders(-1)", march.orders(-1), -2);
        DUE.is("orders(MAX)", march.orders(Integer.MAX_VALUE), -2);
        DUE.is("the tape stays", march.end(6), 6);
        march.party(1, 5);
        DUE.is("orders(1)", march.orders(1), -2);
        DUE.is("now there is one", march.orders(0), 1);
        DUE.is("the tape is taken", march.end(1), -1);
        march.days(3);
        DUE.is("it is lost", march.tell(0, 5), 1);
        Due.put(march, 0, "#");
        DUE.is("lost", march.orders(0), -2);
        DUE.is("the tape stays", march.end(1), 1);
        DUE.is("and the fault", march.fault(0), 0);
        march.party(1, 5);
        Due.orders(march, 1, "a=7;b=8;");
        march.days(1);
        Due.orders(march, 1, "a=a+1;rest;c=b;");
        DUE.is("from the first S", march.tell(1, 8), 0);
        march.days(1);
        DUE.is("names stay", march.tell(1, 10), 8);
        DUE.is("not yet", march.tell(1, 12), 0);
        DUE.is("refused", Due.orders(march, 1, "a=0"), -1);
        Due.orders(march, 0, "");
        march.end(0);
        DepotMarch other = new DepotMarch();
        other.party(1, 5);
        other.land(50);
        Due.orders(other, 0, "take 5;rest;a=3;");
        other.days(1);
        DUE.is("refused", Due.orders(other, 0, "b=1;c"), -1);
        other.days(1);
        DUE.is("the old orders go on", other.tell(0, 10), 3);
        DUE.is("the refused ones do not", other.tell(0, 11), 0);
    }

    private static void faultIsOfTheLatest() {
        DepotMarch march = new DepotMarch();
        march.party(1, 5);
        Due.orders(march, 0, "march;;");
        DUE.is("fault(0)", march.fault(0), 1);
        DUE.is("fault(1)", march.fault(1), 6);
        DUE.is("orders(3)", march.orders(3), -2);
        DUE.is("fault(0) still", march.fault(0), 1);
        DUE.is("fault(1) still", march.fault(1), 6);
        DUE.is("fault(2)", march.fault(2), -1);
        DUE.is("fault(-1)", march.fault(-1), -1);
        march.image(0);
        Due.orders(march, 0, "rest;");
        DUE.is("fault(0) without", march.fault(0), 0);
        DUE.is("fault(1) without", march.fault(1), -1);
        march.again(0);
        DUE.is("no image has the fault", march.fault(0), 0);
    }
}
